/-! THE MODEL: copy, picture, focused, kind, as, trace, marks, stand, spot, days -/
def cpU (F : Nat → Int32) (sp dp lo hi : Nat) : Nat → Int32 := fun q => if dp + lo ≤ q ∧ q < dp + hi then F (sp + (q - dp)) else F q
theorem cpU_0 (F : Nat → Int32) (sp dp lo : Nat) : cpU F sp dp lo lo = F := by funext q; exact if_neg (by omega)
theorem wrow_at (M : Mm) (k : Nat) (f : Nat → Int32) : (wrow M k f).1 k = f := if_pos rfl
theorem cp_up {M : Mm} {F : Nat → Int32} {sp dp k : Nat} (h : dp ≤ sp ∨ sp + k < dp) : upd (cpU F sp dp 0 k) (dp + k) ((wrow M 99 (cpU F sp dp 0 k)).1 99 (sp + k)) = cpU F sp dp 0 (k + 1) := by
  rw [wrow_at]
  funext q
  by_cases e : q = dp + k
  · rw [e, pk_us]
    simp only [cpU]
    rw [if_neg (by omega), if_pos (by omega)]
    congr 1; omega
  · rw [pk_un e]
    simp only [cpU]
    by_cases u : dp + 0 ≤ q ∧ q < dp + k
    · rw [if_pos u, if_pos (by omega)]
    · rw [if_neg u, if_neg (by omega)]
theorem cp_dn {M : Mm} {F : Nat → Int32} {sp dp n k : Nat} (hk : k < n) (h : sp < dp ∨ dp + n ≤ sp) : upd (cpU F sp dp (n - k) n) (dp + (n - 1 - k)) ((wrow M 99 (cpU F sp dp (n - k) n)).1 99 (sp + (n - 1 - k))) = cpU F sp dp (n - (k + 1)) n := by
  rw [wrow_at]
  funext q
  by_cases e : q = dp + (n - 1 - k)
  · rw [e, pk_us]
    simp only [cpU]
    rw [if_neg (by omega), if_pos (by omega)]
    congr 1; omega
  · rw [pk_un e]
    simp only [cpU]
    by_cases u : dp + (n - k) ≤ q ∧ q < dp + n
    · rw [if_pos u, if_pos (by omega)]
    · rw [if_neg u, if_neg (by omega)]
theorem n1k {n k : Nat} (h : k < n) : nI n - 1 - nI k = nI (n - 1 - k) := by
  rw [show nI n - 1 = nI (n - 1) from pk_sub (a := n) (b := 1) (by omega), pk_sub (by omega)]
theorem ix80c (a i k : Nat) : 80 * nI a + nI i + nI k = nI (80 * a + i + k) := by rw [ix80, nI_add]
theorem sp_all : ∀ d, d < 365 → (if (if nI d ≤ 172 then 172 - nI d else nI d - 172) ≤ 182 then (if nI d ≤ 172 then 172 - nI d else nI d - 172) else 365 - (if nI d ≤ 172 then 172 - nI d else nI d - 172)) = f_min (f_abs (nI d - 172)) (365 - f_abs (nI d - 172)) := by decide +kernel
set_option maxHeartbeats 4000000 in
set_option maxRecDepth 100000 in
theorem m_copy_bad (M : Mm) (a i b j n : Int32)  (hbad : (f_in a 0 7 && f_in b 0 7) = false) : AX mX12_copy 2 [.ref 96, .int a, .int i, .int b, .int j, .int n] M (some (.int (-1000001))) (wi M 96 0 0) := by
  refine AM_ofF (by decide +kernel) (Nat.le_of_ble_eq_true rfl) (fun X V C _ _ => ?_)
  show AW X V mX12_copy.2.2.1 T0 M 0 0 _ 0 [(0, .ref 96), (1, .int a), (2, .int i), (3, .int b), (4, .int j), (5, .int n)] []
  refine ar_aload_n (n := 0) C dX12_copy_0 rfl rfl ?_
  refine ar_iconst (v := 0) C dX12_copy_1 (by decide) ?_
  refine ar_puti C flX12_59 kd_96 dX12_copy_2 ?_
  refine ar_iload_n (n := 1) C dX12_copy_5 rfl rfl ?_
  refine cS1 (ar := [.int a]) (st := []) C lkX12_73 (k_mSheet (wi M 96 0 0) a) (by decide) rfl (Nat.le_of_ble_eq_true rfl) rfl dX12_copy_6 ?_
  refine ar_if_eqB (tgt := 19) C dX12_copy_9 (by decide) (fun c_1 => ?_) (fun c_1 => ?_)
  · refine ar_ldc C kcX12_79 dX12_copy_19 ?_
    exact ar_ireturn C rfl dX12_copy_21 ⟨rfl, rfl, rfl⟩
  · refine ar_iload_n (n := 3) C dX12_copy_12 rfl rfl ?_
    refine cS1 (ar := [.int b]) (st := []) C lkX12_73 (k_mSheet (wi M 96 0 0) b) (by decide) rfl (Nat.le_of_ble_eq_true rfl) rfl dX12_copy_13 ?_
    refine ar_if_neB (tgt := 22) C dX12_copy_16 (by decide) (fun c_2 => ?_) (fun c_2 => ?_)
    · exact absurd hbad (by first | (rw [c_1]; decide) | simp [*])
    · refine ar_ldc C kcX12_79 dX12_copy_19 ?_
      exact ar_ireturn C rfl dX12_copy_21 ⟨rfl, rfl, rfl⟩
set_option maxHeartbeats 4000000 in
set_option maxRecDepth 100000 in
theorem m_copy_null0 (M : Mm) {a b : Nat} (ha : a < 8) (hb : b < 8) (i j n : Int32) (h : M.1 97 a < 0) : AX mX12_copy 2 [.ref 96, .int (nI a), .int i, .int (nI b), .int j, .int n] M (some (.int (-1000011))) (wi (wi (wi M 96 0 0) 96 1 0) 96 1 1) := by
  refine AM_ofF (by decide +kernel) (Nat.le_of_ble_eq_true rfl) (fun X V C _ _ => ?_)
  show AW X V mX12_copy.2.2.1 T0 M 0 0 _ 0 [(0, .ref 96), (1, .int (nI a)), (2, .int i), (3, .int (nI b)), (4, .int j), (5, .int n)] []
  refine ar_aload_n (n := 0) C dX12_copy_0 rfl rfl ?_
  refine ar_iconst (v := 0) C dX12_copy_1 (by decide) ?_
  refine ar_puti C flX12_59 kd_96 dX12_copy_2 ?_
  refine ar_iload_n (n := 1) C dX12_copy_5 rfl rfl ?_
  refine cS1 (ar := [.int (nI a)]) (st := []) C lkX12_73 (k_mSheet (wi M 96 0 0) (nI a)) (by decide) rfl (Nat.le_of_ble_eq_true rfl) rfl dX12_copy_6 ?_
  refine ar_if_eqB (tgt := 19) C dX12_copy_9 (by decide) (fun c_1 => False.elim (Bool.noConfusion ((in7 ha).symm.trans c_1))) (fun _ => ?_)
  refine ar_iload_n (n := 3) C dX12_copy_12 rfl rfl ?_
  refine cS1 (ar := [.int (nI b)]) (st := []) C lkX12_73 (k_mSheet (wi M 96 0 0) (nI b)) (by decide) rfl (Nat.le_of_ble_eq_true rfl) rfl dX12_copy_13 ?_
  refine ar_if_neB (tgt := 22) C dX12_copy_16 (by decide) (fun _ => ?_) (fun c_2 => False.elim (Bool.noConfusion ((in7 hb).symm.trans c_2)))
  refine ar_aload_n (n := 0) C dX12_copy_22 rfl rfl ?_
  refine ar_iconst (v := 0) C dX12_copy_23 (by decide) ?_
  refine ar_puti C flX12_63 kd_96 dX12_copy_24 ?_
  refine ar_aload_n (n := 0) C dX12_copy_27 rfl rfl ?_
  refine ar_getr C flX12_7 rfl kd_96 rf_96_2 dX12_copy_28 ?_
  refine ar_iload_n (n := 1) C dX12_copy_31 rfl rfl ?_
  refine ar_ialdV (j := a) (v := M.1 97 a) C kd_97 rfl ha (by simp [wi, wl]; try omega) dX12_copy_32 ?_
  refine ar_if_lt (tgt := 45) C dX12_copy_33 (by decide) (fun _ => ?_) (fun c_3 => False.elim (c_3 h))
  refine ar_aload_n (n := 0) C dX12_copy_45 rfl rfl ?_
  refine ar_iconst (v := 1) C dX12_copy_46 (by decide) ?_
  refine cV1 (ar := [.int 1]) (st := []) C lkX12_80 kd_96 (k_mFound (wi (wi M 96 0 0) 96 1 0) 1) (by decide) rfl (Nat.le_of_ble_eq_true rfl) rfl dX12_copy_47 ?_
  exact ar_ireturn C rfl dX12_copy_50 ⟨rfl, rfl, rfl⟩
set_option maxHeartbeats 4000000 in
set_option maxRecDepth 100000 in
theorem m_copy_null1 (M : Mm) {a b : Nat} (ha : a < 8) (hb : b < 8) (i j n : Int32) (h : ¬ M.1 97 a < 0) (h2 : M.1 97 b < 0) : AX mX12_copy 2 [.ref 96, .int (nI a), .int i, .int (nI b), .int j, .int n] M (some (.int (-1000011))) (wi (wi (wi M 96 0 0) 96 1 0) 96 1 1) := by
  refine AM_ofF (by decide +kernel) (Nat.le_of_ble_eq_true rfl) (fun X V C _ _ => ?_)
  show AW X V mX12_copy.2.2.1 T0 M 0 0 _ 0 [(0, .ref 96), (1, .int (nI a)), (2, .int i), (3, .int (nI b)), (4, .int j), (5, .int n)] []
  refine ar_aload_n (n := 0) C dX12_copy_0 rfl rfl ?_
  refine ar_iconst (v := 0) C dX12_copy_1 (by decide) ?_
  refine ar_puti C flX12_59 kd_96 dX12_copy_2 ?_
  refine ar_iload_n (n := 1) C dX12_copy_5 rfl rfl ?_
  refine cS1 (ar := [.int (nI a)]) (st := []) C lkX12_73 (k_mSheet (wi M 96 0 0) (nI a)) (by decide) rfl (Nat.le_of_ble_eq_true rfl) rfl dX12_copy_6 ?_
  refine ar_if_eqB (tgt := 19) C dX12_copy_9 (by decide) (fun c_1 => False.elim (Bool.noConfusion ((in7 ha).symm.trans c_1))) (fun _ => ?_)
  refine ar_iload_n (n := 3) C dX12_copy_12 rfl rfl ?_
  refine cS1 (ar := [.int (nI b)]) (st := []) C lkX12_73 (k_mSheet (wi M 96 0 0) (nI b)) (by decide) rfl (Nat.le_of_ble_eq_true rfl) rfl dX12_copy_13 ?_
  refine ar_if_neB (tgt := 22) C dX12_copy_16 (by decide) (fun _ => ?_) (fun c_2 => False.elim (Bool.noConfusion ((in7 hb).symm.trans c_2)))
  refine ar_aload_n (n := 0) C dX12_copy_22 rfl rfl ?_
  refine ar_iconst (v := 0) C dX12_copy_23 (by decide) ?_
  refine ar_puti C flX12_63 kd_96 dX12_copy_24 ?_
  refine ar_aload_n (n := 0) C dX12_copy_27 rfl rfl ?_
  refine ar_getr C flX12_7 rfl kd_96 rf_96_2 dX12_copy_28 ?_
  refine ar_iload_n (n := 1) C dX12_copy_31 rfl rfl ?_
  refine ar_ialdV (j := a) (v := M.1 97 a) C kd_97 rfl ha (by simp [wi, wl]; try omega) dX12_copy_32 ?_
  refine ar_if_lt (tgt := 45) C dX12_copy_33 (by decide) (fun c_3 => False.elim (h c_3)) (fun _ => ?_)
  refine ar_aload_n (n := 0) C dX12_copy_36 rfl rfl ?_
  refine ar_getr C flX12_7 rfl kd_96 rf_96_2 dX12_copy_37 ?_
  refine ar_iload_n (n := 3) C dX12_copy_40 rfl rfl ?_
  refine ar_ialdV (j := b) (v := M.1 97 b) C kd_97 rfl hb (by simp [wi, wl]; try omega) dX12_copy_41 ?_
  refine ar_if_ge (tgt := 51) C dX12_copy_42 (by decide) (fun c_4 => False.elim (Int32.not_le.mpr h2 c_4)) (fun _ => ?_)
  refine ar_aload_n (n := 0) C dX12_copy_45 rfl rfl ?_
  refine ar_iconst (v := 1) C dX12_copy_46 (by decide) ?_
  refine cV1 (ar := [.int 1]) (st := []) C lkX12_80 kd_96 (k_mFound (wi (wi M 96 0 0) 96 1 0) 1) (by decide) rfl (Nat.le_of_ble_eq_true rfl) rfl dX12_copy_47 ?_
  exact ar_ireturn C rfl dX12_copy_50 ⟨rfl, rfl, rfl⟩
set_option maxHeartbeats 4000000 in
set_option maxRecDepth 100000 in
theorem m_copy_store (M : Mm) {a b : Nat} (ha : a < 8) (hb : b < 8) (i j n : Int32) (h : ¬ M.1 97 a < 0) (h2 : ¬ M.1 97 b < 0) (h3 : ¬ M.1 97 a = M.1 97 b) : AX mX12_copy 2 [.ref 96, .int (nI a), .int i, .int (nI b), .int j, .int n] M (some (.int (-1000015))) (wi (wi (wi M 96 0 0) 96 1 0) 96 1 5) := by
  refine AM_ofF (by decide +kernel) (Nat.le_of_ble_eq_true rfl) (fun X V C _ _ => ?_)
  show AW X V mX12_copy.2.2.1 T0 M 0 0 _ 0 [(0, .ref 96), (1, .int (nI a)), (2, .int i), (3, .int (nI b)), (4, .int j), (5, .int n)] []
  refine ar_aload_n (n := 0) C dX12_copy_0 rfl rfl ?_
  refine ar_iconst (v := 0) C dX12_copy_1 (by decide) ?_
  refine ar_puti C flX12_59 kd_96 dX12_copy_2 ?_
  refine ar_iload_n (n := 1) C dX12_copy_5 rfl rfl ?_
  refine cS1 (ar := [.int (nI a)]) (st := []) C lkX12_73 (k_mSheet (wi M 96 0 0) (nI a)) (by decide) rfl (Nat.le_of_ble_eq_true rfl) rfl dX12_copy_6 ?_
  refine ar_if_eqB (tgt := 19) C dX12_copy_9 (by decide) (fun c_1 => False.elim (Bool.noConfusion ((in7 ha).symm.trans c_1))) (fun _ => ?_)
  refine ar_iload_n (n := 3) C dX12_copy_12 rfl rfl ?_
  refine cS1 (ar := [.int (nI b)]) (st := []) C lkX12_73 (k_mSheet (wi M 96 0 0) (nI b)) (by decide) rfl (Nat.le_of_ble_eq_true rfl) rfl dX12_copy_13 ?_
  refine ar_if_neB (tgt := 22) C dX12_copy_16 (by decide) (fun _ => ?_) (fun c_2 => False.elim (Bool.noConfusion ((in7 hb).symm.trans c_2)))
  refine ar_aload_n (n := 0) C dX12_copy_22 rfl rfl ?_
  refine ar_iconst (v := 0) C dX12_copy_23 (by decide) ?_
  refine ar_puti C flX12_63 kd_96 dX12_copy_24 ?_
  refine ar_aload_n (n := 0) C dX12_copy_27 rfl rfl ?_
  refine ar_getr C flX12_7 rfl kd_96 rf_96_2 dX12_copy_28 ?_
  refine ar_iload_n (n := 1) C dX12_copy_31 rfl rfl ?_
  refine ar_ialdV (j := a) (v := M.1 97 a) C kd_97 rfl ha (by simp [wi, wl]; try omega) dX12_copy_32 ?_
  refine ar_if_lt (tgt := 45) C dX12_copy_33 (by decide) (fun c_3 => False.elim (h c_3)) (fun _ => ?_)
  refine ar_aload_n (n := 0) C dX12_copy_36 rfl rfl ?_
  refine ar_getr C flX12_7 rfl kd_96 rf_96_2 dX12_copy_37 ?_
  refine ar_iload_n (n := 3) C dX12_copy_40 rfl rfl ?_
  refine ar_ialdV (j := b) (v := M.1 97 b) C kd_97 rfl hb (by simp [wi, wl]; try omega) dX12_copy_41 ?_
  refine ar_if_ge (tgt := 51) C dX12_copy_42 (by decide) (fun _ => ?_) (fun c_4 => False.elim (c_4 (Int32.not_lt.mp h2)))
  refine ar_aload_n (n := 0) C dX12_copy_51 rfl rfl ?_
  refine ar_getr C flX12_7 rfl kd_96 rf_96_2 dX12_copy_52 ?_
  refine ar_iload_n (n := 1) C dX12_copy_55 rfl rfl ?_
  refine ar_ialdV (j := a) (v := M.1 97 a) C kd_97 rfl ha (by simp [wi, wl]; try omega) dX12_copy_56 ?_
  refine ar_aload_n (n := 0) C dX12_copy_57 rfl rfl ?_
  refine ar_getr C flX12_7 rfl kd_96 rf_96_2 dX12_copy_58 ?_
  refine ar_iload_n (n := 3) C dX12_copy_61 rfl rfl ?_
  refine ar_ialdV (j := b) (v := M.1 97 b) C kd_97 rfl hb (by simp [wi, wl]; try omega) dX12_copy_62 ?_
  refine ar_icmp_eq (tgt := 72) C dX12_copy_63 (by decide) (fun c_5 => False.elim (h3 c_5)) (fun _ => ?_)
  refine ar_aload_n (n := 0) C dX12_copy_66 rfl rfl ?_
  refine ar_iconst (v := 5) C dX12_copy_67 (by decide) ?_
  refine cV1 (ar := [.int 5]) (st := []) C lkX12_80 kd_96 (k_mFound (wi (wi M 96 0 0) 96 1 0) 5) (by decide) rfl (Nat.le_of_ble_eq_true rfl) rfl dX12_copy_68 ?_
  exact ar_ireturn C rfl dX12_copy_71 ⟨rfl, rfl, rfl⟩
set_option maxHeartbeats 4000000 in
set_option maxRecDepth 100000 in
theorem m_copy_place (M : Mm) {a b : Nat} (ha : a < 8) (hb : b < 8) (i j n : Int32) (h : ¬ M.1 97 a < 0) (h2 : ¬ M.1 97 b < 0) (h3 : M.1 97 a = M.1 97 b) (hp : (!decide (i < 0) && !decide (j < 0) && !decide (n < 0) && !decide ((M.1 98 a).toInt64 < i.toInt64 + n.toInt64) && !decide ((M.1 98 b).toInt64 < j.toInt64 + n.toInt64)) = false) : AX mX12_copy 2 [.ref 96, .int (nI a), .int i, .int (nI b), .int j, .int n] M (some (.int (-1000012))) (wi (wi (wi M 96 0 0) 96 1 0) 96 1 2) := by
  refine AM_ofF (by decide +kernel) (Nat.le_of_ble_eq_true rfl) (fun X V C _ _ => ?_)
  show AW X V mX12_copy.2.2.1 T0 M 0 0 _ 0 [(0, .ref 96), (1, .int (nI a)), (2, .int i), (3, .int (nI b)), (4, .int j), (5, .int n)] []
  refine ar_aload_n (n := 0) C dX12_copy_0 rfl rfl ?_
  refine ar_iconst (v := 0) C dX12_copy_1 (by decide) ?_
  refine ar_puti C flX12_59 kd_96 dX12_copy_2 ?_
  refine ar_iload_n (n := 1) C dX12_copy_5 rfl rfl ?_
  refine cS1 (ar := [.int (nI a)]) (st := []) C lkX12_73 (k_mSheet (wi M 96 0 0) (nI a)) (by decide) rfl (Nat.le_of_ble_eq_true rfl) rfl dX12_copy_6 ?_
  refine ar_if_eqB (tgt := 19) C dX12_copy_9 (by decide) (fun c_1 => False.elim (Bool.noConfusion ((in7 ha).symm.trans c_1))) (fun _ => ?_)
  refine ar_iload_n (n := 3) C dX12_copy_12 rfl rfl ?_
  refine cS1 (ar := [.int (nI b)]) (st := []) C lkX12_73 (k_mSheet (wi M 96 0 0) (nI b)) (by decide) rfl (Nat.le_of_ble_eq_true rfl) rfl dX12_copy_13 ?_
  refine ar_if_neB (tgt := 22) C dX12_copy_16 (by decide) (fun _ => ?_) (fun c_2 => False.elim (Bool.noConfusion ((in7 hb).symm.trans c_2)))
  refine ar_aload_n (n := 0) C dX12_copy_22 rfl rfl ?_
  refine ar_iconst (v := 0) C dX12_copy_23 (by decide) ?_
  refine ar_puti C flX12_63 kd_96 dX12_copy_24 ?_
  refine ar_aload_n (n := 0) C dX12_copy_27 rfl rfl ?_
  refine ar_getr C flX12_7 rfl kd_96 rf_96_2 dX12_copy_28 ?_
  refine ar_iload_n (n := 1) C dX12_copy_31 rfl rfl ?_
  refine ar_ialdV (j := a) (v := M.1 97 a) C kd_97 rfl ha (by simp [wi, wl]; try omega) dX12_copy_32 ?_
  refine ar_if_lt (tgt := 45) C dX12_copy_33 (by decide) (fun c_3 => False.elim (h c_3)) (fun _ => ?_)
  refine ar_aload_n (n := 0) C dX12_copy_36 rfl rfl ?_
  refine ar_getr C flX12_7 rfl kd_96 rf_96_2 dX12_copy_37 ?_
  refine ar_iload_n (n := 3) C dX12_copy_40 rfl rfl ?_
  refine ar_ialdV (j := b) (v := M.1 97 b) C kd_97 rfl hb (by simp [wi, wl]; try omega) dX12_copy_41 ?_
  refine ar_if_ge (tgt := 51) C dX12_copy_42 (by decide) (fun _ => ?_) (fun c_4 => False.elim (c_4 (Int32.not_lt.mp h2)))
  refine ar_aload_n (n := 0) C dX12_copy_51 rfl rfl ?_
  refine ar_getr C flX12_7 rfl kd_96 rf_96_2 dX12_copy_52 ?_
  refine ar_iload_n (n := 1) C dX12_copy_55 rfl rfl ?_
  refine ar_ialdV (j := a) (v := M.1 97 a) C kd_97 rfl ha (by simp [wi, wl]; try omega) dX12_copy_56 ?_
  refine ar_aload_n (n := 0) C dX12_copy_57 rfl rfl ?_
  refine ar_getr C flX12_7 rfl kd_96 rf_96_2 dX12_copy_58 ?_
  refine ar_iload_n (n := 3) C dX12_copy_61 rfl rfl ?_
  refine ar_ialdV (j := b) (v := M.1 97 b) C kd_97 rfl hb (by simp [wi, wl]; try omega) dX12_copy_62 ?_
  refine ar_icmp_eq (tgt := 72) C dX12_copy_63 (by decide) (fun _ => ?_) (fun c_5 => False.elim (c_5 h3))
  refine ar_iload_n (n := 2) C dX12_copy_72 rfl rfl ?_
  refine ar_if_lt (tgt := 121) C dX12_copy_73 (by decide) (fun c_6 => ?_) (fun c_6 => ?_)
  · refine ar_aload_n (n := 0) C dX12_copy_121 rfl rfl ?_
    refine ar_iconst (v := 2) C dX12_copy_122 (by decide) ?_
    refine cV1 (ar := [.int 2]) (st := []) C lkX12_80 kd_96 (k_mFound (wi (wi M 96 0 0) 96 1 0) 2) (by decide) rfl (Nat.le_of_ble_eq_true rfl) rfl dX12_copy_123 ?_
    exact ar_ireturn C rfl dX12_copy_126 ⟨rfl, rfl, rfl⟩
  · refine ar_iload (n := 4) C dX12_copy_76 rfl ?_
    refine ar_if_lt (tgt := 121) C dX12_copy_78 (by decide) (fun c_7 => ?_) (fun c_7 => ?_)
    · refine ar_aload_n (n := 0) C dX12_copy_121 rfl rfl ?_
      refine ar_iconst (v := 2) C dX12_copy_122 (by decide) ?_
      refine cV1 (ar := [.int 2]) (st := []) C lkX12_80 kd_96 (k_mFound (wi (wi M 96 0 0) 96 1 0) 2) (by decide) rfl (Nat.le_of_ble_eq_true rfl) rfl dX12_copy_123 ?_
      exact ar_ireturn C rfl dX12_copy_126 ⟨rfl, rfl, rfl⟩
    · refine ar_iload (n := 5) C dX12_copy_81 rfl ?_
      refine ar_if_lt (tgt := 121) C dX12_copy_83 (by decide) (fun c_8 => ?_) (fun c_8 => ?_)
      · refine ar_aload_n (n := 0) C dX12_copy_121 rfl rfl ?_
        refine ar_iconst (v := 2) C dX12_copy_122 (by decide) ?_
        refine cV1 (ar := [.int 2]) (st := []) C lkX12_80 kd_96 (k_mFound (wi (wi M 96 0 0) 96 1 0) 2) (by decide) rfl (Nat.le_of_ble_eq_true rfl) rfl dX12_copy_123 ?_
        exact ar_ireturn C rfl dX12_copy_126 ⟨rfl, rfl, rfl⟩
      · refine ar_iload_n (n := 2) C dX12_copy_86 rfl rfl ?_
        refine ar_i2l C dX12_copy_87 ?_
        refine ar_iload (n := 5) C dX12_copy_88 rfl ?_
        refine ar_i2l C dX12_copy_90 ?_
        refine ar_ladd C dX12_copy_91 ?_
        refine ar_aload_n (n := 0) C dX12_copy_92 rfl rfl ?_
        refine ar_getr C flX12_13 rfl kd_96 rf_96_3 dX12_copy_93 ?_
        refine ar_iload_n (n := 1) C dX12_copy_96 rfl rfl ?_
        refine ar_ialdV (j := a) (v := M.1 98 a) C kd_98 rfl ha (by simp [wi, wl]; try omega) dX12_copy_97 ?_
        refine ar_i2l C dX12_copy_98 ?_
        refine ar_lc_gt (tgt := 121) C dX12_copy_99 dX12_copy_100 (by decide) (fun c_9 => ?_) (fun c_9 => ?_)
        · refine ar_aload_n (n := 0) C dX12_copy_121 rfl rfl ?_
          refine ar_iconst (v := 2) C dX12_copy_122 (by decide) ?_
          refine cV1 (ar := [.int 2]) (st := []) C lkX12_80 kd_96 (k_mFound (wi (wi M 96 0 0) 96 1 0) 2) (by decide) rfl (Nat.le_of_ble_eq_true rfl) rfl dX12_copy_123 ?_
          exact ar_ireturn C rfl dX12_copy_126 ⟨rfl, rfl, rfl⟩
        · refine ar_iload (n := 4) C dX12_copy_103 rfl ?_
          refine ar_i2l C dX12_copy_105 ?_
          refine ar_iload (n := 5) C dX12_copy_106 rfl ?_
          refine ar_i2l C dX12_copy_108 ?_
          refine ar_ladd C dX12_copy_109 ?_
          refine ar_aload_n (n := 0) C dX12_copy_110 rfl rfl ?_
          refine ar_getr C flX12_13 rfl kd_96 rf_96_3 dX12_copy_111 ?_
          refine ar_iload_n (n := 3) C dX12_copy_114 rfl rfl ?_
          refine ar_ialdV (j := b) (v := M.1 98 b) C kd_98 rfl hb (by simp [wi, wl]; try omega) dX12_copy_115 ?_
          refine ar_i2l C dX12_copy_116 ?_
          refine ar_lc_le (tgt := 127) C dX12_copy_117 dX12_copy_118 (by decide) (fun c_10 => ?_) (fun c_10 => ?_)
          · exact absurd hp (by rw [decide_eq_false c_6, decide_eq_false c_7, decide_eq_false c_8, decide_eq_false c_9, decide_eq_false c_10]; decide)
          · refine ar_aload_n (n := 0) C dX12_copy_121 rfl rfl ?_
            refine ar_iconst (v := 2) C dX12_copy_122 (by decide) ?_
            refine cV1 (ar := [.int 2]) (st := []) C lkX12_80 kd_96 (k_mFound (wi (wi M 96 0 0) 96 1 0) 2) (by decide) rfl (Nat.le_of_ble_eq_true rfl) rfl dX12_copy_123 ?_
            exact ar_ireturn C rfl dX12_copy_126 ⟨rfl, rfl, rfl⟩
set_option maxHeartbeats 4000000 in
set_option maxRecDepth 100000 in
theorem l_copy1 {X : Ctx} {V : Vx} {Q : State → Prop} (C : Cx X V mX12_copy 2) (M : Mm) {a b i j n : Nat} (ha : a < 8) (hb : b < 8) (h1 : i + n ≤ 80) (h2 : j + n ≤ 80) (hd : j ≤ i) (kk : AW X V mX12_copy.2.2.1 T0 (wrow M 99 (cpU (M.1 99) (80 * a + i) (80 * b + j) 0 n)) 0 0 Q 204 [(7, .int (nI n)), (6, .int 1), (0, .ref 96), (1, .int (nI a)), (2, .int (nI i)), (3, .int (nI b)), (4, .int (nI j)), (5, .int (nI n))] []) : ∀ (m : Nat) (k : Nat), k ≤ n → n - k < m → AW X V mX12_copy.2.2.1 T0 (wrow M 99 (cpU (M.1 99) (80 * a + i) (80 * b + j) 0 k)) 0 0 Q 143 [(7, .int (nI k)), (6, .int 1), (0, .ref 96), (1, .int (nI a)), (2, .int (nI i)), (3, .int (nI b)), (4, .int (nI j)), (5, .int (nI n))] [] := by
  intro m
  induction m with
  | zero => intro k _ h; exact absurd h (Nat.not_lt_zero _)
  | succ m ih =>
    intro k hk0 hmz
    refine ar_iload (n := 0) C dX12_copy_143 rfl ?_
    refine ar_iload (n := 7) C dX12_copy_145 rfl ?_
    refine ar_icmp_ge (tgt := 204) C dX12_copy_147 (by decide) (fun c_1 => ?_) (fun c_1 => ?_)
    · have hk : k = n := Nat.le_antisymm hk0 (nat_le (a := n) c_1 (by omega) (by omega))
      subst hk
      exact kk
    · have hk : k < n := nat_nle (a := n) c_1 (by omega) (by omega)
      refine ar_iload (n := 1) C dX12_copy_150 rfl ?_
      refine ar_if_eq (tgt := 160) C dX12_copy_152 (by decide) (fun c_2 => False.elim (absurd c_2 (by decide))) (fun _ => ?_)
      refine ar_iload (n := 0) C dX12_copy_155 rfl ?_
      refine ar_goto (tgt := 167) C dX12_copy_157 (by decide) ?_
      refine ar_istore (als' := [(8, .int (nI k)), (7, .int (nI k)), (6, .int 1), (0, .ref 96), (1, .int (nI a)), (2, .int (nI i)), (3, .int (nI b)), (4, .int (nI j)), (5, .int (nI n))]) C dX12_copy_167 (by decide) rfl ?_
      refine ar_aload_n (n := 3) C dX12_copy_169 rfl rfl ?_
      refine ar_getr C flX12_16 rfl kd_96 rf_96_4 dX12_copy_170 ?_
      refine ar_bipush (v := 80) C dX12_copy_173 (by decide) ?_
      refine ar_iload_n (n := 6) C dX12_copy_175 rfl rfl ?_
      refine ar_imul C dX12_copy_176 ?_
      refine ar_iload (n := 7) C dX12_copy_177 rfl ?_
      refine ar_iadd C dX12_copy_179 ?_
      refine ar_iload (n := 0) C dX12_copy_180 rfl ?_
      refine ar_iadd C dX12_copy_182 ?_
      refine ar_aload_n (n := 3) C dX12_copy_183 rfl rfl ?_
      refine ar_getr C flX12_16 rfl kd_96 rf_96_4 dX12_copy_184 ?_
      refine ar_bipush (v := 80) C dX12_copy_187 (by decide) ?_
      refine ar_iload_n (n := 4) C dX12_copy_189 rfl rfl ?_
      refine ar_imul C dX12_copy_190 ?_
      refine ar_iload_n (n := 5) C dX12_copy_191 rfl rfl ?_
      refine ar_iadd C dX12_copy_192 ?_
      refine ar_iload (n := 0) C dX12_copy_193 rfl ?_
      refine ar_iadd C dX12_copy_195 ?_
      refine ar_iald (j := 80 * a + i + k) C kd_99 (ix80c a i k) (by omega) dX12_copy_196 ?_
      refine ar_iast (j := 80 * b + j + k) C kd_99 (ix80c b j k) (by omega) dX12_copy_197 ?_
      refine ar_iinc (n := 1) (v := (nI (k + 1))) (als' := [(7, .int (nI (k + 1))), (8, .int (nI k)), (6, .int 1), (0, .ref 96), (1, .int (nI a)), (2, .int (nI i)), (3, .int (nI b)), (4, .int (nI j)), (5, .int (nI n))]) C dX12_copy_198 rfl (nI_1 _) (by decide) rfl ?_
      refine ar_goto (tgt := 143) C dX12_copy_201 (by decide) ?_
      refine ar_sub [0, 2, 3, 4, 5, 6, 7, 8] rfl ?_
      refine ar_mem (wrow M 99 (cpU (M.1 99) (80 * a + i) (80 * b + j) 0 (k + 1))) (by rw [wrow_wi, cp_up (by omega)]) ?_
      exact ih (k + 1) (by omega) (by omega)
set_option maxHeartbeats 4000000 in
set_option maxRecDepth 100000 in
theorem l_copy0 {X : Ctx} {V : Vx} {Q : State → Prop} (C : Cx X V mX12_copy 2) (M : Mm) {a b i j n : Nat} (ha : a < 8) (hb : b < 8) (h1 : i + n ≤ 80) (h2 : j + n ≤ 80) (hd : i < j) (kk : AW X V mX12_copy.2.2.1 T0 (wrow M 99 (cpU (M.1 99) (80 * a + i) (80 * b + j) 0 n)) 0 0 Q 204 [(7, .int (nI n)), (6, .int 0), (0, .ref 96), (1, .int (nI a)), (2, .int (nI i)), (3, .int (nI b)), (4, .int (nI j)), (5, .int (nI n))] []) : ∀ (m : Nat) (k : Nat), k ≤ n → n - k < m → AW X V mX12_copy.2.2.1 T0 (wrow M 99 (cpU (M.1 99) (80 * a + i) (80 * b + j) (n - k) n)) 0 0 Q 143 [(7, .int (nI k)), (6, .int 0), (0, .ref 96), (1, .int (nI a)), (2, .int (nI i)), (3, .int (nI b)), (4, .int (nI j)), (5, .int (nI n))] [] := by
  intro m
  induction m with
  | zero => intro k _ h; exact absurd h (Nat.not_lt_zero _)
  | succ m ih =>
    intro k hk0 hmz
    refine ar_iload (n := 0) C dX12_copy_143 rfl ?_
    refine ar_iload (n := 7) C dX12_copy_145 rfl ?_
    refine ar_icmp_ge (tgt := 204) C dX12_copy_147 (by decide) (fun c_1 => ?_) (fun c_1 => ?_)
    · have hk : k = n := Nat.le_antisymm hk0 (nat_le (a := n) c_1 (by omega) (by omega))
      subst hk
      rw [Nat.sub_self]
      exact kk
    · have hk : k < n := nat_nle (a := n) c_1 (by omega) (by omega)
      refine ar_iload (n := 1) C dX12_copy_150 rfl ?_
      refine ar_if_eq (tgt := 160) C dX12_copy_152 (by decide) (fun _ => ?_) (fun c_2 => False.elim (c_2 rfl))
      refine ar_iload (n := 7) C dX12_copy_160 rfl ?_
      refine ar_iconst (v := 1) C dX12_copy_162 (by decide) ?_
      refine ar_isub C dX12_copy_163 ?_
      refine ar_iload (n := 0) C dX12_copy_164 rfl ?_
      refine ar_isub C dX12_copy_166 ?_
      refine ar_topi (nI (n - 1 - k)) (n1k hk) ?_
      refine ar_istore (als' := [(8, .int (nI (n - 1 - k))), (7, .int (nI k)), (6, .int 0), (0, .ref 96), (1, .int (nI a)), (2, .int (nI i)), (3, .int (nI b)), (4, .int (nI j)), (5, .int (nI n))]) C dX12_copy_167 (by decide) rfl ?_
      refine ar_aload_n (n := 3) C dX12_copy_169 rfl rfl ?_
      refine ar_getr C flX12_16 rfl kd_96 rf_96_4 dX12_copy_170 ?_
      refine ar_bipush (v := 80) C dX12_copy_173 (by decide) ?_
      refine ar_iload_n (n := 6) C dX12_copy_175 rfl rfl ?_
      refine ar_imul C dX12_copy_176 ?_
      refine ar_iload (n := 7) C dX12_copy_177 rfl ?_
      refine ar_iadd C dX12_copy_179 ?_
      refine ar_iload (n := 0) C dX12_copy_180 rfl ?_
      refine ar_iadd C dX12_copy_182 ?_
      refine ar_aload_n (n := 3) C dX12_copy_183 rfl rfl ?_
      refine ar_getr C flX12_16 rfl kd_96 rf_96_4 dX12_copy_184 ?_
      refine ar_bipush (v := 80) C dX12_copy_187 (by decide) ?_
      refine ar_iload_n (n := 4) C dX12_copy_189 rfl rfl ?_
      refine ar_imul C dX12_copy_190 ?_
      refine ar_iload_n (n := 5) C dX12_copy_191 rfl rfl ?_
      refine ar_iadd C dX12_copy_192 ?_
      refine ar_iload (n := 0) C dX12_copy_193 rfl ?_
      refine ar_iadd C dX12_copy_195 ?_
      refine ar_iald (j := 80 * a + i + (n - 1 - k)) C kd_99 (ix80c a i (n - 1 - k)) (by omega) dX12_copy_196 ?_
      refine ar_iast (j := 80 * b + j + (n - 1 - k)) C kd_99 (ix80c b j (n - 1 - k)) (by omega) dX12_copy_197 ?_
      refine ar_iinc (n := 1) (v := (nI (k + 1))) (als' := [(7, .int (nI (k + 1))), (8, .int (nI (n - 1 - k))), (6, .int 0), (0, .ref 96), (1, .int (nI a)), (2, .int (nI i)), (3, .int (nI b)), (4, .int (nI j)), (5, .int (nI n))]) C dX12_copy_198 rfl (nI_1 _) (by decide) rfl ?_
      refine ar_goto (tgt := 143) C dX12_copy_201 (by decide) ?_
      refine ar_sub [0, 2, 3, 4, 5, 6, 7, 8] rfl ?_
      refine ar_mem (wrow M 99 (cpU (M.1 99) (80 * a + i) (80 * b + j) (n - (k + 1)) n)) (by rw [wrow_wi, cp_dn hk (by omega)]) ?_
      exact ih (k + 1) (by omega) (by omega)
set_option maxHeartbeats 4000000 in
set_option maxRecDepth 100000 in
theorem m_copy_ok (M : Mm) {a b i j n : Nat} (ha : a < 8) (hb : b < 8) (h1 : i + n ≤ 80) (h2 : j + n ≤ 80) (g1 : ¬ M.1 97 a < 0) (g2 : ¬ M.1 97 b < 0) (h3 : M.1 97 a = M.1 97 b) (hA : ¬ (M.1 98 a).toInt64 < (nI i).toInt64 + (nI n).toInt64) (hB : ¬ (M.1 98 b).toInt64 < (nI j).toInt64 + (nI n).toInt64) : AX mX12_copy 2 [.ref 96, .int (nI a), .int (nI i), .int (nI b), .int (nI j), .int (nI n)] M (some (.int (nI n))) (wrow (wi (wi M 96 0 0) 96 1 0) 99 (cpU (M.1 99) (80 * a + i) (80 * b + j) 0 n)) := by
  refine AM_ofF (by decide +kernel) (Nat.le_of_ble_eq_true rfl) (fun X V C _ _ => ?_)
  show AW X V mX12_copy.2.2.1 T0 M 0 0 _ 0 [(0, .ref 96), (1, .int (nI a)), (2, .int (nI i)), (3, .int (nI b)), (4, .int (nI j)), (5, .int (nI n))] []
  refine ar_aload_n (n := 0) C dX12_copy_0 rfl rfl ?_
  refine ar_iconst (v := 0) C dX12_copy_1 (by decide) ?_
  refine ar_puti C flX12_59 kd_96 dX12_copy_2 ?_
  refine ar_iload_n (n := 1) C dX12_copy_5 rfl rfl ?_
  refine cS1 (ar := [.int (nI a)]) (st := []) C lkX12_73 (k_mSheet (wi M 96 0 0) (nI a)) (by decide) rfl (Nat.le_of_ble_eq_true rfl) rfl dX12_copy_6 ?_
  refine ar_if_eqB (tgt := 19) C dX12_copy_9 (by decide) (fun c_1 => False.elim (Bool.noConfusion ((in7 ha).symm.trans c_1))) (fun _ => ?_)
  refine ar_iload_n (n := 3) C dX12_copy_12 rfl rfl ?_
  refine cS1 (ar := [.int (nI b)]) (st := []) C lkX12_73 (k_mSheet (wi M 96 0 0) (nI b)) (by decide) rfl (Nat.le_of_ble_eq_true rfl) rfl dX12_copy_13 ?_
  refine ar_if_neB (tgt := 22) C dX12_copy_16 (by decide) (fun _ => ?_) (fun c_2 => False.elim (Bool.noConfusion ((in7 hb).symm.trans c_2)))
  refine ar_aload_n (n := 0) C dX12_copy_22 rfl rfl ?_
  refine ar_iconst (v := 0) C dX12_copy_23 (by decide) ?_
  refine ar_puti C flX12_63 kd_96 dX12_copy_24 ?_
  refine ar_aload_n (n := 0) C dX12_copy_27 rfl rfl ?_
  refine ar_getr C flX12_7 rfl kd_96 rf_96_2 dX12_copy_28 ?_
  refine ar_iload_n (n := 1) C dX12_copy_31 rfl rfl ?_
  refine ar_ialdV (j := a) (v := M.1 97 a) C kd_97 rfl ha (by simp [wi, wl]; try omega) dX12_copy_32 ?_
  refine ar_if_lt (tgt := 45) C dX12_copy_33 (by decide) (fun c_3 => False.elim (g1 c_3)) (fun _ => ?_)
  refine ar_aload_n (n := 0) C dX12_copy_36 rfl rfl ?_
  refine ar_getr C flX12_7 rfl kd_96 rf_96_2 dX12_copy_37 ?_
  refine ar_iload_n (n := 3) C dX12_copy_40 rfl rfl ?_
  refine ar_ialdV (j := b) (v := M.1 97 b) C kd_97 rfl hb (by simp [wi, wl]; try omega) dX12_copy_41 ?_
  refine ar_if_ge (tgt := 51) C dX12_copy_42 (by decide) (fun _ => ?_) (fun c_4 => False.elim (c_4 (Int32.not_lt.mp g2)))
  refine ar_aload_n (n := 0) C dX12_copy_51 rfl rfl ?_
  refine ar_getr C flX12_7 rfl kd_96 rf_96_2 dX12_copy_52 ?_
  refine ar_iload_n (n := 1) C dX12_copy_55 rfl rfl ?_
  refine ar_ialdV (j := a) (v := M.1 97 a) C kd_97 rfl ha (by simp [wi, wl]; try omega) dX12_copy_56 ?_
  refine ar_aload_n (n := 0) C dX12_copy_57 rfl rfl ?_
  refine ar_getr C flX12_7 rfl kd_96 rf_96_2 dX12_copy_58 ?_
  refine ar_iload_n (n := 3) C dX12_copy_61 rfl rfl ?_
  refine ar_ialdV (j := b) (v := M.1 97 b) C kd_97 rfl hb (by simp [wi, wl]; try omega) dX12_copy_62 ?_
  refine ar_icmp_eq (tgt := 72) C dX12_copy_63 (by decide) (fun _ => ?_) (fun c_5 => False.elim (c_5 h3))
  refine ar_iload_n (n := 2) C dX12_copy_72 rfl rfl ?_
  refine ar_if_lt (tgt := 121) C dX12_copy_73 (by decide) (fun c_6 => False.elim (nI_pos (by omega) c_6)) (fun _ => ?_)
  refine ar_iload (n := 4) C dX12_copy_76 rfl ?_
  refine ar_if_lt (tgt := 121) C dX12_copy_78 (by decide) (fun c_7 => False.elim (nI_pos (by omega) c_7)) (fun _ => ?_)
  refine ar_iload (n := 5) C dX12_copy_81 rfl ?_
  refine ar_if_lt (tgt := 121) C dX12_copy_83 (by decide) (fun c_8 => False.elim (nI_pos (by omega) c_8)) (fun _ => ?_)
  refine ar_iload_n (n := 2) C dX12_copy_86 rfl rfl ?_
  refine ar_i2l C dX12_copy_87 ?_
  refine ar_iload (n := 5) C dX12_copy_88 rfl ?_
  refine ar_i2l C dX12_copy_90 ?_
  refine ar_ladd C dX12_copy_91 ?_
  refine ar_aload_n (n := 0) C dX12_copy_92 rfl rfl ?_
  refine ar_getr C flX12_13 rfl kd_96 rf_96_3 dX12_copy_93 ?_
  refine ar_iload_n (n := 1) C dX12_copy_96 rfl rfl ?_
  refine ar_ialdV (j := a) (v := M.1 98 a) C kd_98 rfl ha (by simp [wi, wl]; try omega) dX12_copy_97 ?_
  refine ar_i2l C dX12_copy_98 ?_
  refine ar_lc_gt (tgt := 121) C dX12_copy_99 dX12_copy_100 (by decide) (fun c_9 => False.elim (hA c_9)) (fun _ => ?_)
  refine ar_iload (n := 4) C dX12_copy_103 rfl ?_
  refine ar_i2l C dX12_copy_105 ?_
  refine ar_iload (n := 5) C dX12_copy_106 rfl ?_
  refine ar_i2l C dX12_copy_108 ?_
  refine ar_ladd C dX12_copy_109 ?_
  refine ar_aload_n (n := 0) C dX12_copy_110 rfl rfl ?_
  refine ar_getr C flX12_13 rfl kd_96 rf_96_3 dX12_copy_111 ?_
  refine ar_iload_n (n := 3) C dX12_copy_114 rfl rfl ?_
  refine ar_ialdV (j := b) (v := M.1 98 b) C kd_98 rfl hb (by simp [wi, wl]; try omega) dX12_copy_115 ?_
  refine ar_i2l C dX12_copy_116 ?_
  refine ar_lc_le (tgt := 127) C dX12_copy_117 dX12_copy_118 (by decide) (fun _ => ?_) (fun c_10 => False.elim (hB c_10))
  refine ar_iload_n (n := 2) C dX12_copy_127 rfl rfl ?_
  refine ar_iload (n := 4) C dX12_copy_128 rfl ?_
  refine ar_icmp_lt (tgt := 137) C dX12_copy_130 (by decide) (fun c_11 => ?_) (fun c_11 => ?_)
  · refine ar_iconst (v := 0) C dX12_copy_137 (by decide) ?_
    refine ar_istore (als' := [(6, .int 0), (0, .ref 96), (1, .int (nI a)), (2, .int (nI i)), (3, .int (nI b)), (4, .int (nI j)), (5, .int (nI n))]) C dX12_copy_138 (by decide) rfl ?_
    refine ar_iconst (v := 0) C dX12_copy_140 (by decide) ?_
    refine ar_istore (als' := [(7, .int 0), (6, .int 0), (0, .ref 96), (1, .int (nI a)), (2, .int (nI i)), (3, .int (nI b)), (4, .int (nI j)), (5, .int (nI n))]) C dX12_copy_141 (by decide) rfl ?_
    refine ar_mem (wrow (wi (wi M 96 0 0) 96 1 0) 99 (cpU (M.1 99) (80 * a + i) (80 * b + j) (n - 0) n)) (by rw [Nat.sub_zero, cpU_0]; exact (wrow_self (wi (wi M 96 0 0) 96 1 0) 99).symm) ?_
    refine l_copy0 C (wi (wi M 96 0 0) 96 1 0) ha hb h1 h2 ((nI_ltI (by omega) (by omega)).mp c_11) ?_ (n + 1) 0 (by omega) (by omega)
    refine ar_iload (n := 7) C dX12_copy_204 rfl ?_
    exact ar_ireturn C rfl dX12_copy_206 ⟨rfl, rfl, rfl⟩
  · refine ar_iconst (v := 1) C dX12_copy_133 (by decide) ?_
    refine ar_goto (tgt := 138) C dX12_copy_134 (by decide) ?_
    refine ar_istore (als' := [(6, .int 1), (0, .ref 96), (1, .int (nI a)), (2, .int (nI i)), (3, .int (nI b)), (4, .int (nI j)), (5, .int (nI n))]) C dX12_copy_138 (by decide) rfl ?_
    refine ar_iconst (v := 0) C dX12_copy_140 (by decide) ?_
    refine ar_istore (als' := [(7, .int 0), (6, .int 1), (0, .ref 96), (1, .int (nI a)), (2, .int (nI i)), (3, .int (nI b)), (4, .int (nI j)), (5, .int (nI n))]) C dX12_copy_141 (by decide) rfl ?_
    refine ar_mem (wrow (wi (wi M 96 0 0) 96 1 0) 99 (cpU (M.1 99) (80 * a + i) (80 * b + j) 0 0)) (by rw [cpU_0]; exact (wrow_self (wi (wi M 96 0 0) 96 1 0) 99).symm) ?_
    refine l_copy1 C (wi (wi M 96 0 0) 96 1 0) ha hb h1 h2 ((nI_leI (by omega) (by omega)).mp (Int32.not_lt.mp c_11)) ?_ (n + 1) 0 (by omega) (by omega)
    refine ar_iload (n := 7) C dX12_copy_204 rfl ?_
    exact ar_ireturn C rfl dX12_copy_206 ⟨rfl, rfl, rfl⟩
set_option maxHeartbeats 4000000 in
set_option maxRecDepth 100000 in
theorem m_picture_bad (M : Mm) (t w : Int32)  (hbad : (f_in t 0 (M.1 96 7 - 1) && f_in w 0 8) = false) : AX mX12_picture 5 [.ref 96, .int t, .int w] M (some (.int (-1000001))) (wi M 96 0 0) := by
  refine AM_ofF (by decide +kernel) (Nat.le_of_ble_eq_true rfl) (fun X V C _ _ => ?_)
  show AW X V mX12_picture.2.2.1 T0 M 0 0 _ 0 [(0, .ref 96), (1, .int t), (2, .int w)] []
  refine ar_aload_n (n := 0) C dX12_picture_0 rfl rfl ?_
  refine ar_iconst (v := 0) C dX12_picture_1 (by decide) ?_
  refine ar_puti C flX12_59 kd_96 dX12_picture_2 ?_
  refine ar_aload_n (n := 0) C dX12_picture_5 rfl rfl ?_
  refine ar_iload_n (n := 1) C dX12_picture_6 rfl rfl ?_
  refine cV1 (ar := [.int t]) (st := []) C lkX12_110 kd_96 (k_mThing (wi M 96 0 0) t) (by decide) rfl (Nat.le_of_ble_eq_true rfl) rfl dX12_picture_7 ?_
  refine ar_if_eqB (tgt := 25) C dX12_picture_10 (by decide) (fun c_1 => ?_) (fun c_1 => ?_)
  · refine ar_ldc C kcX12_79 dX12_picture_25 ?_
    exact ar_ireturn C rfl dX12_picture_27 ⟨rfl, rfl, rfl⟩
  · refine ar_iload_n (n := 2) C dX12_picture_13 rfl rfl ?_
    refine ar_i2l C dX12_picture_14 ?_
    refine ar_lconst (v := 0) C dX12_picture_15 (by decide) ?_
    refine ar_ldc2 C kcX12_88 dX12_picture_16 ?_
    refine cS1 (ar := [.long w.toInt64, .long 0, .long 8]) (st := []) C lkX12_69 (k_inI (wi M 96 0 0) w 0 8 _ _ (by decide) (by decide)) (by decide) rfl (Nat.le_of_ble_eq_true rfl) rfl dX12_picture_19 ?_
    refine ar_if_neB (tgt := 28) C dX12_picture_22 (by decide) (fun c_2 => ?_) (fun c_2 => ?_)
    · exact absurd hbad (by first | (rw [c_1]; decide) | simp [*, show f_in t 0 (M.1 96 7 - 1) = true from c_1])
    · refine ar_ldc C kcX12_79 dX12_picture_25 ?_
      exact ar_ireturn C rfl dX12_picture_27 ⟨rfl, rfl, rfl⟩
set_option maxHeartbeats 4000000 in
set_option maxRecDepth 100000 in
theorem m_picture_0 (M : Mm) {i N : Nat} (hN : M.1 96 7 = nI N) (hi : i < N) (hN24 : N ≤ 24) {ρ β : Nat → Int32} {x y z : Int32} (h : MT M i ρ β x y z) : AX mX12_picture 5 [.ref 96, .int (nI i), .int 0] M (some (.int x)) (wi M 96 0 0) := by
  have h0 := h
  obtain ⟨e1, e2, e3, e4, e5, h6, h7, h8⟩ := h0
  obtain ⟨x1, x2, x3, x4⟩ := RT_x h8
  refine AM_ofF (by decide +kernel) (Nat.le_of_ble_eq_true rfl) (fun X V C _ _ => ?_)
  show AW X V mX12_picture.2.2.1 T0 M 0 0 _ 0 [(0, .ref 96), (1, .int (nI i)), (2, .int 0)] []
  refine ar_aload_n (n := 0) C dX12_picture_0 rfl rfl ?_
  refine ar_iconst (v := 0) C dX12_picture_1 (by decide) ?_
  refine ar_puti C flX12_59 kd_96 dX12_picture_2 ?_
  refine ar_aload_n (n := 0) C dX12_picture_5 rfl rfl ?_
  refine ar_iload_n (n := 1) C dX12_picture_6 rfl rfl ?_
  refine cV1 (ar := [.int (nI i)]) (st := []) C lkX12_110 kd_96 (k_mThing (wi M 96 0 0) (nI i)) (by decide) rfl (Nat.le_of_ble_eq_true rfl) rfl dX12_picture_7 ?_
  refine ar_if_eqB (tgt := 25) C dX12_picture_10 (by decide) (fun c_1 => False.elim (Bool.noConfusion ((inN hN hi hN24).symm.trans c_1))) (fun _ => ?_)
  refine ar_iload_n (n := 2) C dX12_picture_13 rfl rfl ?_
  refine ar_i2l C dX12_picture_14 ?_
  refine ar_lconst (v := 0) C dX12_picture_15 (by decide) ?_
  refine ar_ldc2 C kcX12_88 dX12_picture_16 ?_
  refine cS1 (ar := [.long ((0 : Int32).toInt64), .long 0, .long 8]) (st := []) C lkX12_69 (k_inI (wi M 96 0 0) 0 0 8 _ _ (by decide) (by decide)) (by decide) rfl (Nat.le_of_ble_eq_true rfl) rfl dX12_picture_19 ?_
  refine ar_if_neB (tgt := 28) C dX12_picture_22 (by decide) (fun _ => ?_) (fun c_2 => False.elim (Bool.noConfusion ((show f_in 0 0 8 = true by decide).symm.trans c_2)))
  refine ar_aload_n (n := 0) C dX12_picture_28 rfl rfl ?_
  refine ar_getr C flX12_19 rfl kd_96 rf_96_5 dX12_picture_29 ?_
  refine ar_iconst (v := 2) C dX12_picture_32 (by decide) ?_
  refine ar_ialdV (j := 2) (v := M.1 100 2) C kd_100 (by decide) (by decide) rfl dX12_picture_33 ?_
  refine ar_topi (ρ 2) (congrFun e1 2) ?_
  refine ar_istore_n (als' := [(3, .int (ρ 2)), (0, .ref 96), (1, .int (nI i)), (2, .int 0)]) C dX12_picture_34 rfl (by decide) rfl ?_
  refine ar_iload_n (n := 3) C dX12_picture_35 rfl rfl ?_
  refine ar_tableIn (tgt := 84) C dX12_picture_36 (by decide) (by decide) rfl (by decide) ?_
  refine ar_aload_n (n := 1) C dX12_picture_84 rfl rfl ?_
  refine ar_getr C flX12_25 rfl kd_96 rf_96_8 dX12_picture_85 ?_
  refine ar_iload_n (n := 2) C dX12_picture_88 rfl rfl ?_
  refine ar_ialdV (j := i) (v := M.1 102 i) C kd_102 rfl (show i < 24 by omega) (by simp [wi, wl]; try omega) dX12_picture_89 ?_
  refine ar_topi x e3 ?_
  exact ar_ireturn C rfl dX12_picture_90 ⟨rfl, rfl, rfl⟩
set_option maxHeartbeats 4000000 in
set_option maxRecDepth 100000 in
theorem m_picture_1 (M : Mm) {i N : Nat} (hN : M.1 96 7 = nI N) (hi : i < N) (hN24 : N ≤ 24) {ρ β : Nat → Int32} {x y z : Int32} (h : MT M i ρ β x y z) : AX mX12_picture 5 [.ref 96, .int (nI i), .int 1] M (some (.int y)) (wi M 96 0 0) := by
  have h0 := h
  obtain ⟨e1, e2, e3, e4, e5, h6, h7, h8⟩ := h0
  obtain ⟨x1, x2, x3, x4⟩ := RT_x h8
  refine AM_ofF (by decide +kernel) (Nat.le_of_ble_eq_true rfl) (fun X V C _ _ => ?_)
  show AW X V mX12_picture.2.2.1 T0 M 0 0 _ 0 [(0, .ref 96), (1, .int (nI i)), (2, .int 1)] []
  refine ar_aload_n (n := 0) C dX12_picture_0 rfl rfl ?_
  refine ar_iconst (v := 0) C dX12_picture_1 (by decide) ?_
  refine ar_puti C flX12_59 kd_96 dX12_picture_2 ?_
  refine ar_aload_n (n := 0) C dX12_picture_5 rfl rfl ?_
  refine ar_iload_n (n := 1) C dX12_picture_6 rfl rfl ?_
  refine cV1 (ar := [.int (nI i)]) (st := []) C lkX12_110 kd_96 (k_mThing (wi M 96 0 0) (nI i)) (by decide) rfl (Nat.le_of_ble_eq_true rfl) rfl dX12_picture_7 ?_
  refine ar_if_eqB (tgt := 25) C dX12_picture_10 (by decide) (fun c_1 => False.elim (Bool.noConfusion ((inN hN hi hN24).symm.trans c_1))) (fun _ => ?_)
  refine ar_iload_n (n := 2) C dX12_picture_13 rfl rfl ?_
  refine ar_i2l C dX12_picture_14 ?_
  refine ar_lconst (v := 0) C dX12_picture_15 (by decide) ?_
  refine ar_ldc2 C kcX12_88 dX12_picture_16 ?_
  refine cS1 (ar := [.long ((1 : Int32).toInt64), .long 0, .long 8]) (st := []) C lkX12_69 (k_inI (wi M 96 0 0) 1 0 8 _ _ (by decide) (by decide)) (by decide) rfl (Nat.le_of_ble_eq_true rfl) rfl dX12_picture_19 ?_
  refine ar_if_neB (tgt := 28) C dX12_picture_22 (by decide) (fun _ => ?_) (fun c_2 => False.elim (Bool.noConfusion ((show f_in 1 0 8 = true by decide).symm.trans c_2)))
  refine ar_aload_n (n := 0) C dX12_picture_28 rfl rfl ?_
  refine ar_getr C flX12_19 rfl kd_96 rf_96_5 dX12_picture_29 ?_
  refine ar_iconst (v := 2) C dX12_picture_32 (by decide) ?_
  refine ar_ialdV (j := 2) (v := M.1 100 2) C kd_100 (by decide) (by decide) rfl dX12_picture_33 ?_
  refine ar_topi (ρ 2) (congrFun e1 2) ?_
  refine ar_istore_n (als' := [(3, .int (ρ 2)), (0, .ref 96), (1, .int (nI i)), (2, .int 1)]) C dX12_picture_34 rfl (by decide) rfl ?_
  refine ar_iload_n (n := 3) C dX12_picture_35 rfl rfl ?_
  refine ar_tableIn (tgt := 91) C dX12_picture_36 (by decide) (by decide) rfl (by decide) ?_
  refine ar_aload_n (n := 1) C dX12_picture_91 rfl rfl ?_
  refine ar_getr C flX12_28 rfl kd_96 rf_96_9 dX12_picture_92 ?_
  refine ar_iload_n (n := 2) C dX12_picture_95 rfl rfl ?_
  refine ar_ialdV (j := i) (v := M.1 103 i) C kd_103 rfl (show i < 24 by omega) (by simp [wi, wl]; try omega) dX12_picture_96 ?_
  refine ar_topi y e4 ?_
  exact ar_ireturn C rfl dX12_picture_97 ⟨rfl, rfl, rfl⟩
set_option maxHeartbeats 4000000 in
set_option maxRecDepth 100000 in
theorem m_picture_2 (M : Mm) {i N : Nat} (hN : M.1 96 7 = nI N) (hi : i < N) (hN24 : N ≤ 24) {ρ β : Nat → Int32} {x y z : Int32} (h : MT M i ρ β x y z) : AX mX12_picture 5 [.ref 96, .int (nI i), .int 2] M (some (.int z)) (wi M 96 0 0) := by
  have h0 := h
  obtain ⟨e1, e2, e3, e4, e5, h6, h7, h8⟩ := h0
  obtain ⟨x1, x2, x3, x4⟩ := RT_x h8
  refine AM_ofF (by decide +kernel) (Nat.le_of_ble_eq_true rfl) (fun X V C _ _ => ?_)
  show AW X V mX12_picture.2.2.1 T0 M 0 0 _ 0 [(0, .ref 96), (1, .int (nI i)), (2, .int 2)] []
  refine ar_aload_n (n := 0) C dX12_picture_0 rfl rfl ?_
  refine ar_iconst (v := 0) C dX12_picture_1 (by decide) ?_
  refine ar_puti C flX12_59 kd_96 dX12_picture_2 ?_
  refine ar_aload_n (n := 0) C dX12_picture_5 rfl rfl ?_
  refine ar_iload_n (n := 1) C dX12_picture_6 rfl rfl ?_
  refine cV1 (ar := [.int (nI i)]) (st := []) C lkX12_110 kd_96 (k_mThing (wi M 96 0 0) (nI i)) (by decide) rfl (Nat.le_of_ble_eq_true rfl) rfl dX12_picture_7 ?_
  refine ar_if_eqB (tgt := 25) C dX12_picture_10 (by decide) (fun c_1 => False.elim (Bool.noConfusion ((inN hN hi hN24).symm.trans c_1))) (fun _ => ?_)
  refine ar_iload_n (n := 2) C dX12_picture_13 rfl rfl ?_
  refine ar_i2l C dX12_picture_14 ?_
  refine ar_lconst (v := 0) C dX12_picture_15 (by decide) ?_
  refine ar_ldc2 C kcX12_88 dX12_picture_16 ?_
  refine cS1 (ar := [.long ((2 : Int32).toInt64), .long 0, .long 8]) (st := []) C lkX12_69 (k_inI (wi M 96 0 0) 2 0 8 _ _ (by decide) (by decide)) (by decide) rfl (Nat.le_of_ble_eq_true rfl) rfl dX12_picture_19 ?_
  refine ar_if_neB (tgt := 28) C dX12_picture_22 (by decide) (fun _ => ?_) (fun c_2 => False.elim (Bool.noConfusion ((show f_in 2 0 8 = true by decide).symm.trans c_2)))
  refine ar_aload_n (n := 0) C dX12_picture_28 rfl rfl ?_
  refine ar_getr C flX12_19 rfl kd_96 rf_96_5 dX12_picture_29 ?_
  refine ar_iconst (v := 2) C dX12_picture_32 (by decide) ?_
  refine ar_ialdV (j := 2) (v := M.1 100 2) C kd_100 (by decide) (by decide) rfl dX12_picture_33 ?_
  refine ar_topi (ρ 2) (congrFun e1 2) ?_
  refine ar_istore_n (als' := [(3, .int (ρ 2)), (0, .ref 96), (1, .int (nI i)), (2, .int 2)]) C dX12_picture_34 rfl (by decide) rfl ?_
  refine ar_iload_n (n := 3) C dX12_picture_35 rfl rfl ?_
  refine ar_tableIn (tgt := 98) C dX12_picture_36 (by decide) (by decide) rfl (by decide) ?_
  refine ar_aload_n (n := 1) C dX12_picture_98 rfl rfl ?_
  refine ar_getr C flX12_31 rfl kd_96 rf_96_10 dX12_picture_99 ?_
  refine ar_iload_n (n := 2) C dX12_picture_102 rfl rfl ?_
  refine ar_ialdV (j := i) (v := M.1 104 i) C kd_104 rfl (show i < 24 by omega) (by simp [wi, wl]; try omega) dX12_picture_103 ?_
  refine ar_topi z e5 ?_
  exact ar_ireturn C rfl dX12_picture_104 ⟨rfl, rfl, rfl⟩
set_option maxHeartbeats 4000000 in
set_option maxRecDepth 100000 in
theorem m_picture_3 (M : Mm) {i N : Nat} (hN : M.1 96 7 = nI N) (hi : i < N) (hN24 : N ≤ 24) {ρ β : Nat → Int32} {x y z : Int32} (h : MT M i ρ β x y z) : AX mX12_picture 5 [.ref 96, .int (nI i), .int 3] M (some (.int (f_by (-x * ρ 2) z))) (wi M 96 0 0) := by
  have h0 := h
  obtain ⟨e1, e2, e3, e4, e5, h6, h7, h8⟩ := h0
  obtain ⟨x1, x2, x3, x4⟩ := RT_x h8
  refine AM_ofF (by decide +kernel) (Nat.le_of_ble_eq_true rfl) (fun X V C _ _ => ?_)
  show AW X V mX12_picture.2.2.1 T0 M 0 0 _ 0 [(0, .ref 96), (1, .int (nI i)), (2, .int 3)] []
  refine ar_aload_n (n := 0) C dX12_picture_0 rfl rfl ?_
  refine ar_iconst (v := 0) C dX12_picture_1 (by decide) ?_
  refine ar_puti C flX12_59 kd_96 dX12_picture_2 ?_
  refine ar_aload_n (n := 0) C dX12_picture_5 rfl rfl ?_
  refine ar_iload_n (n := 1) C dX12_picture_6 rfl rfl ?_
  refine cV1 (ar := [.int (nI i)]) (st := []) C lkX12_110 kd_96 (k_mThing (wi M 96 0 0) (nI i)) (by decide) rfl (Nat.le_of_ble_eq_true rfl) rfl dX12_picture_7 ?_
  refine ar_if_eqB (tgt := 25) C dX12_picture_10 (by decide) (fun c_1 => False.elim (Bool.noConfusion ((inN hN hi hN24).symm.trans c_1))) (fun _ => ?_)
  refine ar_iload_n (n := 2) C dX12_picture_13 rfl rfl ?_
  refine ar_i2l C dX12_picture_14 ?_
  refine ar_lconst (v := 0) C dX12_picture_15 (by decide) ?_
  refine ar_ldc2 C kcX12_88 dX12_picture_16 ?_
  refine cS1 (ar := [.long ((3 : Int32).toInt64), .long 0, .long 8]) (st := []) C lkX12_69 (k_inI (wi M 96 0 0) 3 0 8 _ _ (by decide) (by decide)) (by decide) rfl (Nat.le_of_ble_eq_true rfl) rfl dX12_picture_19 ?_
  refine ar_if_neB (tgt := 28) C dX12_picture_22 (by decide) (fun _ => ?_) (fun c_2 => False.elim (Bool.noConfusion ((show f_in 3 0 8 = true by decide).symm.trans c_2)))
  refine ar_aload_n (n := 0) C dX12_picture_28 rfl rfl ?_
  refine ar_getr C flX12_19 rfl kd_96 rf_96_5 dX12_picture_29 ?_
  refine ar_iconst (v := 2) C dX12_picture_32 (by decide) ?_
  refine ar_ialdV (j := 2) (v := M.1 100 2) C kd_100 (by decide) (by decide) rfl dX12_picture_33 ?_
  refine ar_topi (ρ 2) (congrFun e1 2) ?_
  refine ar_istore_n (als' := [(3, .int (ρ 2)), (0, .ref 96), (1, .int (nI i)), (2, .int 3)]) C dX12_picture_34 rfl (by decide) rfl ?_
  refine ar_iload_n (n := 3) C dX12_picture_35 rfl rfl ?_
  refine ar_tableIn (tgt := 105) C dX12_picture_36 (by decide) (by decide) rfl (by decide) ?_
  refine ar_aload_n (n := 1) C dX12_picture_105 rfl rfl ?_
  refine ar_iload_n (n := 2) C dX12_picture_106 rfl rfl ?_
  refine ar_iload_n (n := 0) C dX12_picture_107 rfl rfl ?_
  refine cV1 (ar := [.int (nI i), .int (ρ 2)]) (st := []) C lkX12_113 kd_96 (m_firstOf (wi M 96 0 0) (t := i) (show i < 24 by omega) (MT_s (Or.inl (by decide)) h) (ρ 2)) (by decide) rfl (Nat.le_of_ble_eq_true rfl) rfl dX12_picture_108 ?_
  exact ar_ireturn C rfl dX12_picture_111 ⟨rfl, rfl, rfl⟩
set_option maxHeartbeats 4000000 in
set_option maxRecDepth 100000 in
theorem m_picture_4 (M : Mm) {i N : Nat} (hN : M.1 96 7 = nI N) (hi : i < N) (hN24 : N ≤ 24) {ρ β : Nat → Int32} {x y z : Int32} (h : MT M i ρ β x y z) : AX mX12_picture 5 [.ref 96, .int (nI i), .int 4] M (some (.int (f_colc (f_by (-x * ρ 2) z)))) (wi M 96 0 0) := by
  have h0 := h
  obtain ⟨e1, e2, e3, e4, e5, h6, h7, h8⟩ := h0
  obtain ⟨x1, x2, x3, x4⟩ := RT_x h8
  refine AM_ofF (by decide +kernel) (Nat.le_of_ble_eq_true rfl) (fun X V C _ _ => ?_)
  show AW X V mX12_picture.2.2.1 T0 M 0 0 _ 0 [(0, .ref 96), (1, .int (nI i)), (2, .int 4)] []
  refine ar_aload_n (n := 0) C dX12_picture_0 rfl rfl ?_
  refine ar_iconst (v := 0) C dX12_picture_1 (by decide) ?_
  refine ar_puti C flX12_59 kd_96 dX12_picture_2 ?_
  refine ar_aload_n (n := 0) C dX12_picture_5 rfl rfl ?_
  refine ar_iload_n (n := 1) C dX12_picture_6 rfl rfl ?_
  refine cV1 (ar := [.int (nI i)]) (st := []) C lkX12_110 kd_96 (k_mThing (wi M 96 0 0) (nI i)) (by decide) rfl (Nat.le_of_ble_eq_true rfl) rfl dX12_picture_7 ?_
  refine ar_if_eqB (tgt := 25) C dX12_picture_10 (by decide) (fun c_1 => False.elim (Bool.noConfusion ((inN hN hi hN24).symm.trans c_1))) (fun _ => ?_)
  refine ar_iload_n (n := 2) C dX12_picture_13 rfl rfl ?_
  refine ar_i2l C dX12_picture_14 ?_
  refine ar_lconst (v := 0) C dX12_picture_15 (by decide) ?_
  refine ar_ldc2 C kcX12_88 dX12_picture_16 ?_
  refine cS1 (ar := [.long ((4 : Int32).toInt64), .long 0, .long 8]) (st := []) C lkX12_69 (k_inI (wi M 96 0 0) 4 0 8 _ _ (by decide) (by decide)) (by decide) rfl (Nat.le_of_ble_eq_true rfl) rfl dX12_picture_19 ?_
  refine ar_if_neB (tgt := 28) C dX12_picture_22 (by decide) (fun _ => ?_) (fun c_2 => False.elim (Bool.noConfusion ((show f_in 4 0 8 = true by decide).symm.trans c_2)))
  refine ar_aload_n (n := 0) C dX12_picture_28 rfl rfl ?_
  refine ar_getr C flX12_19 rfl kd_96 rf_96_5 dX12_picture_29 ?_
  refine ar_iconst (v := 2) C dX12_picture_32 (by decide) ?_
  refine ar_ialdV (j := 2) (v := M.1 100 2) C kd_100 (by decide) (by decide) rfl dX12_picture_33 ?_
  refine ar_topi (ρ 2) (congrFun e1 2) ?_
  refine ar_istore_n (als' := [(3, .int (ρ 2)), (0, .ref 96), (1, .int (nI i)), (2, .int 4)]) C dX12_picture_34 rfl (by decide) rfl ?_
  refine ar_iload_n (n := 3) C dX12_picture_35 rfl rfl ?_
  refine ar_tableIn (tgt := 112) C dX12_picture_36 (by decide) (by decide) rfl (by decide) ?_
  refine ar_aload_n (n := 1) C dX12_picture_112 rfl rfl ?_
  refine ar_iload_n (n := 2) C dX12_picture_113 rfl rfl ?_
  refine ar_iload_n (n := 0) C dX12_picture_114 rfl rfl ?_
  refine cV1 (ar := [.int (nI i), .int (ρ 2)]) (st := []) C lkX12_117 kd_96 (m_columnOf (wi M 96 0 0) (t := i) (show i < 24 by omega) (MT_s (Or.inl (by decide)) h) (ρ 2) (by have := RR_2 h6; simp only [na]; omega)) (by decide) rfl (Nat.le_of_ble_eq_true rfl) rfl dX12_picture_115 ?_
  exact ar_ireturn C rfl dX12_picture_118 ⟨rfl, rfl, rfl⟩
set_option maxHeartbeats 4000000 in
set_option maxRecDepth 100000 in
theorem m_picture_5 (M : Mm) {i N : Nat} (hN : M.1 96 7 = nI N) (hi : i < N) (hN24 : N ≤ 24) {ρ β : Nat → Int32} {x y z : Int32} (h : MT M i ρ β x y z) : AX mX12_picture 5 [.ref 96, .int (nI i), .int 5] M (some (.int (f_far β x z (ρ 2)))) (wi M 96 0 0) := by
  have h0 := h
  obtain ⟨e1, e2, e3, e4, e5, h6, h7, h8⟩ := h0
  obtain ⟨x1, x2, x3, x4⟩ := RT_x h8
  refine AM_ofF (by decide +kernel) (Nat.le_of_ble_eq_true rfl) (fun X V C _ _ => ?_)
  show AW X V mX12_picture.2.2.1 T0 M 0 0 _ 0 [(0, .ref 96), (1, .int (nI i)), (2, .int 5)] []
  refine ar_aload_n (n := 0) C dX12_picture_0 rfl rfl ?_
  refine ar_iconst (v := 0) C dX12_picture_1 (by decide) ?_
  refine ar_puti C flX12_59 kd_96 dX12_picture_2 ?_
  refine ar_aload_n (n := 0) C dX12_picture_5 rfl rfl ?_
  refine ar_iload_n (n := 1) C dX12_picture_6 rfl rfl ?_
  refine cV1 (ar := [.int (nI i)]) (st := []) C lkX12_110 kd_96 (k_mThing (wi M 96 0 0) (nI i)) (by decide) rfl (Nat.le_of_ble_eq_true rfl) rfl dX12_picture_7 ?_
  refine ar_if_eqB (tgt := 25) C dX12_picture_10 (by decide) (fun c_1 => False.elim (Bool.noConfusion ((inN hN hi hN24).symm.trans c_1))) (fun _ => ?_)
  refine ar_iload_n (n := 2) C dX12_picture_13 rfl rfl ?_
  refine ar_i2l C dX12_picture_14 ?_
  refine ar_lconst (v := 0) C dX12_picture_15 (by decide) ?_
  refine ar_ldc2 C kcX12_88 dX12_picture_16 ?_
  refine cS1 (ar := [.long ((5 : Int32).toInt64), .long 0, .long 8]) (st := []) C lkX12_69 (k_inI (wi M 96 0 0) 5 0 8 _ _ (by decide) (by decide)) (by decide) rfl (Nat.le_of_ble_eq_true rfl) rfl dX12_picture_19 ?_
  refine ar_if_neB (tgt := 28) C dX12_picture_22 (by decide) (fun _ => ?_) (fun c_2 => False.elim (Bool.noConfusion ((show f_in 5 0 8 = true by decide).symm.trans c_2)))
  refine ar_aload_n (n := 0) C dX12_picture_28 rfl rfl ?_
  refine ar_getr C flX12_19 rfl kd_96 rf_96_5 dX12_picture_29 ?_
  refine ar_iconst (v := 2) C dX12_picture_32 (by decide) ?_
  refine ar_ialdV (j := 2) (v := M.1 100 2) C kd_100 (by decide) (by decide) rfl dX12_picture_33 ?_
  refine ar_topi (ρ 2) (congrFun e1 2) ?_
  refine ar_istore_n (als' := [(3, .int (ρ 2)), (0, .ref 96), (1, .int (nI i)), (2, .int 5)]) C dX12_picture_34 rfl (by decide) rfl ?_
  refine ar_iload_n (n := 3) C dX12_picture_35 rfl rfl ?_
  refine ar_tableIn (tgt := 119) C dX12_picture_36 (by decide) (by decide) rfl (by decide) ?_
  refine ar_aload_n (n := 1) C dX12_picture_119 rfl rfl ?_
  refine ar_iload_n (n := 2) C dX12_picture_120 rfl rfl ?_
  refine ar_iload_n (n := 0) C dX12_picture_121 rfl rfl ?_
  refine cV1 (ar := [.int (nI i), .int (ρ 2)]) (st := []) C lkX12_120 kd_96 (m_farBy (wi M 96 0 0) (t := i) (show i < 24 by omega) (MT_s (Or.inl (by decide)) h) (ρ 2) (RR_2 h6).1 (RR_2 h6).2) (by decide) rfl (Nat.le_of_ble_eq_true rfl) rfl dX12_picture_122 ?_
  exact ar_ireturn C rfl dX12_picture_125 ⟨rfl, rfl, rfl⟩
set_option maxHeartbeats 4000000 in
set_option maxRecDepth 100000 in
theorem m_picture_6 (M : Mm) {i N : Nat} (hN : M.1 96 7 = nI N) (hi : i < N) (hN24 : N ≤ 24) {ρ β : Nat → Int32} {x y z : Int32} (h : MT M i ρ β x y z) : AX mX12_picture 5 [.ref 96, .int (nI i), .int 6] M (some (.int (P_x ρ β x z))) (wi M 96 0 0) := by
  have h0 := h
  obtain ⟨e1, e2, e3, e4, e5, h6, h7, h8⟩ := h0
  obtain ⟨x1, x2, x3, x4⟩ := RT_x h8
  refine AM_ofF (by decide +kernel) (Nat.le_of_ble_eq_true rfl) (fun X V C _ _ => ?_)
  show AW X V mX12_picture.2.2.1 T0 M 0 0 _ 0 [(0, .ref 96), (1, .int (nI i)), (2, .int 6)] []
  refine ar_aload_n (n := 0) C dX12_picture_0 rfl rfl ?_
  refine ar_iconst (v := 0) C dX12_picture_1 (by decide) ?_
  refine ar_puti C flX12_59 kd_96 dX12_picture_2 ?_
  refine ar_aload_n (n := 0) C dX12_picture_5 rfl rfl ?_
  refine ar_iload_n (n := 1) C dX12_picture_6 rfl rfl ?_
  refine cV1 (ar := [.int (nI i)]) (st := []) C lkX12_110 kd_96 (k_mThing (wi M 96 0 0) (nI i)) (by decide) rfl (Nat.le_of_ble_eq_true rfl) rfl dX12_picture_7 ?_
  refine ar_if_eqB (tgt := 25) C dX12_picture_10 (by decide) (fun c_1 => False.elim (Bool.noConfusion ((inN hN hi hN24).symm.trans c_1))) (fun _ => ?_)
  refine ar_iload_n (n := 2) C dX12_picture_13 rfl rfl ?_
  refine ar_i2l C dX12_picture_14 ?_
  refine ar_lconst (v := 0) C dX12_picture_15 (by decide) ?_
  refine ar_ldc2 C kcX12_88 dX12_picture_16 ?_
  refine cS1 (ar := [.long ((6 : Int32).toInt64), .long 0, .long 8]) (st := []) C lkX12_69 (k_inI (wi M 96 0 0) 6 0 8 _ _ (by decide) (by decide)) (by decide) rfl (Nat.le_of_ble_eq_true rfl) rfl dX12_picture_19 ?_
  refine ar_if_neB (tgt := 28) C dX12_picture_22 (by decide) (fun _ => ?_) (fun c_2 => False.elim (Bool.noConfusion ((show f_in 6 0 8 = true by decide).symm.trans c_2)))
  refine ar_aload_n (n := 0) C dX12_picture_28 rfl rfl ?_
  refine ar_getr C flX12_19 rfl kd_96 rf_96_5 dX12_picture_29 ?_
  refine ar_iconst (v := 2) C dX12_picture_32 (by decide) ?_
  refine ar_ialdV (j := 2) (v := M.1 100 2) C kd_100 (by decide) (by decide) rfl dX12_picture_33 ?_
  refine ar_topi (ρ 2) (congrFun e1 2) ?_
  refine ar_istore_n (als' := [(3, .int (ρ 2)), (0, .ref 96), (1, .int (nI i)), (2, .int 6)]) C dX12_picture_34 rfl (by decide) rfl ?_
  refine ar_iload_n (n := 3) C dX12_picture_35 rfl rfl ?_
  refine ar_tableIn (tgt := 126) C dX12_picture_36 (by decide) (by decide) rfl (by decide) ?_
  refine ar_aload_n (n := 1) C dX12_picture_126 rfl rfl ?_
  refine ar_iload_n (n := 2) C dX12_picture_127 rfl rfl ?_
  refine cV1 (ar := [.int (nI i)]) (st := []) C lkX12_129 kd_96 (m_acrossOf (wi M 96 0 0) (t := i) (show i < 24 by omega) (MT_s (Or.inl (by decide)) h)) (by decide) rfl (Nat.le_of_ble_eq_true rfl) rfl dX12_picture_128 ?_
  exact ar_ireturn C rfl dX12_picture_131 ⟨rfl, rfl, rfl⟩
set_option maxHeartbeats 4000000 in
set_option maxRecDepth 100000 in
theorem m_picture_7 (M : Mm) {i N : Nat} (hN : M.1 96 7 = nI N) (hi : i < N) (hN24 : N ≤ 24) {ρ β : Nat → Int32} {x y z : Int32} (h : MT M i ρ β x y z) : AX mX12_picture 5 [.ref 96, .int (nI i), .int 7] M (some (.int (P_y ρ β x y z))) (wi M 96 0 0) := by
  have h0 := h
  obtain ⟨e1, e2, e3, e4, e5, h6, h7, h8⟩ := h0
  obtain ⟨x1, x2, x3, x4⟩ := RT_x h8
  refine AM_ofF (by decide +kernel) (Nat.le_of_ble_eq_true rfl) (fun X V C _ _ => ?_)
  show AW X V mX12_picture.2.2.1 T0 M 0 0 _ 0 [(0, .ref 96), (1, .int (nI i)), (2, .int 7)] []
  refine ar_aload_n (n := 0) C dX12_picture_0 rfl rfl ?_
  refine ar_iconst (v := 0) C dX12_picture_1 (by decide) ?_
  refine ar_puti C flX12_59 kd_96 dX12_picture_2 ?_
  refine ar_aload_n (n := 0) C dX12_picture_5 rfl rfl ?_
  refine ar_iload_n (n := 1) C dX12_picture_6 rfl rfl ?_
  refine cV1 (ar := [.int (nI i)]) (st := []) C lkX12_110 kd_96 (k_mThing (wi M 96 0 0) (nI i)) (by decide) rfl (Nat.le_of_ble_eq_true rfl) rfl dX12_picture_7 ?_
  refine ar_if_eqB (tgt := 25) C dX12_picture_10 (by decide) (fun c_1 => False.elim (Bool.noConfusion ((inN hN hi hN24).symm.trans c_1))) (fun _ => ?_)
  refine ar_iload_n (n := 2) C dX12_picture_13 rfl rfl ?_
  refine ar_i2l C dX12_picture_14 ?_
  refine ar_lconst (v := 0) C dX12_picture_15 (by decide) ?_
  refine ar_ldc2 C kcX12_88 dX12_picture_16 ?_
  refine cS1 (ar := [.long ((7 : Int32).toInt64), .long 0, .long 8]) (st := []) C lkX12_69 (k_inI (wi M 96 0 0) 7 0 8 _ _ (by decide) (by decide)) (by decide) rfl (Nat.le_of_ble_eq_true rfl) rfl dX12_picture_19 ?_
  refine ar_if_neB (tgt := 28) C dX12_picture_22 (by decide) (fun _ => ?_) (fun c_2 => False.elim (Bool.noConfusion ((show f_in 7 0 8 = true by decide).symm.trans c_2)))
  refine ar_aload_n (n := 0) C dX12_picture_28 rfl rfl ?_
  refine ar_getr C flX12_19 rfl kd_96 rf_96_5 dX12_picture_29 ?_
  refine ar_iconst (v := 2) C dX12_picture_32 (by decide) ?_
  refine ar_ialdV (j := 2) (v := M.1 100 2) C kd_100 (by decide) (by decide) rfl dX12_picture_33 ?_
  refine ar_topi (ρ 2) (congrFun e1 2) ?_
  refine ar_istore_n (als' := [(3, .int (ρ 2)), (0, .ref 96), (1, .int (nI i)), (2, .int 7)]) C dX12_picture_34 rfl (by decide) rfl ?_
  refine ar_iload_n (n := 3) C dX12_picture_35 rfl rfl ?_
  refine ar_tableIn (tgt := 132) C dX12_picture_36 (by decide) (by decide) rfl (by decide) ?_
  refine ar_aload_n (n := 1) C dX12_picture_132 rfl rfl ?_
  refine ar_iload_n (n := 2) C dX12_picture_133 rfl rfl ?_
  refine cV1 (ar := [.int (nI i)]) (st := []) C lkX12_132 kd_96 (m_downOf (wi M 96 0 0) (t := i) (show i < 24 by omega) (MT_s (Or.inl (by decide)) h)) (by decide) rfl (Nat.le_of_ble_eq_true rfl) rfl dX12_picture_134 ?_
  exact ar_ireturn C rfl dX12_picture_137 ⟨rfl, rfl, rfl⟩
set_option maxHeartbeats 4000000 in
set_option maxRecDepth 100000 in
theorem m_picture_8 (M : Mm) {i N : Nat} (hN : M.1 96 7 = nI N) (hi : i < N) (hN24 : N ≤ 24) {ρ β : Nat → Int32} {x y z : Int32} (h : MT M i ρ β x y z) : AX mX12_picture 5 [.ref 96, .int (nI i), .int 8] M (some (.int (P_blur ρ β x z))) (wi M 96 0 0) := by
  have h0 := h
  obtain ⟨e1, e2, e3, e4, e5, h6, h7, h8⟩ := h0
  obtain ⟨x1, x2, x3, x4⟩ := RT_x h8
  refine AM_ofF (by decide +kernel) (Nat.le_of_ble_eq_true rfl) (fun X V C _ _ => ?_)
  show AW X V mX12_picture.2.2.1 T0 M 0 0 _ 0 [(0, .ref 96), (1, .int (nI i)), (2, .int 8)] []
  refine ar_aload_n (n := 0) C dX12_picture_0 rfl rfl ?_
  refine ar_iconst (v := 0) C dX12_picture_1 (by decide) ?_
  refine ar_puti C flX12_59 kd_96 dX12_picture_2 ?_
  refine ar_aload_n (n := 0) C dX12_picture_5 rfl rfl ?_
  refine ar_iload_n (n := 1) C dX12_picture_6 rfl rfl ?_
  refine cV1 (ar := [.int (nI i)]) (st := []) C lkX12_110 kd_96 (k_mThing (wi M 96 0 0) (nI i)) (by decide) rfl (Nat.le_of_ble_eq_true rfl) rfl dX12_picture_7 ?_
  refine ar_if_eqB (tgt := 25) C dX12_picture_10 (by decide) (fun c_1 => False.elim (Bool.noConfusion ((inN hN hi hN24).symm.trans c_1))) (fun _ => ?_)
  refine ar_iload_n (n := 2) C dX12_picture_13 rfl rfl ?_
  refine ar_i2l C dX12_picture_14 ?_
  refine ar_lconst (v := 0) C dX12_picture_15 (by decide) ?_
  refine ar_ldc2 C kcX12_88 dX12_picture_16 ?_
  refine cS1 (ar := [.long ((8 : Int32).toInt64), .long 0, .long 8]) (st := []) C lkX12_69 (k_inI (wi M 96 0 0) 8 0 8 _ _ (by decide) (by decide)) (by decide) rfl (Nat.le_of_ble_eq_true rfl) rfl dX12_picture_19 ?_
  refine ar_if_neB (tgt := 28) C dX12_picture_22 (by decide) (fun _ => ?_) (fun c_2 => False.elim (Bool.noConfusion ((show f_in 8 0 8 = true by decide).symm.trans c_2)))
  refine ar_aload_n (n := 0) C dX12_picture_28 rfl rfl ?_
  refine ar_getr C flX12_19 rfl kd_96 rf_96_5 dX12_picture_29 ?_
  refine ar_iconst (v := 2) C dX12_picture_32 (by decide) ?_
  refine ar_ialdV (j := 2) (v := M.1 100 2) C kd_100 (by decide) (by decide) rfl dX12_picture_33 ?_
  refine ar_topi (ρ 2) (congrFun e1 2) ?_
  refine ar_istore_n (als' := [(3, .int (ρ 2)), (0, .ref 96), (1, .int (nI i)), (2, .int 8)]) C dX12_picture_34 rfl (by decide) rfl ?_
  refine ar_iload_n (n := 3) C dX12_picture_35 rfl rfl ?_
  refine ar_tableOut (tgt := 138) C dX12_picture_36 (by decide) (by decide) ?_
  refine ar_aload_n (n := 1) C dX12_picture_138 rfl rfl ?_
  refine ar_iload_n (n := 2) C dX12_picture_139 rfl rfl ?_
  refine cV1 (ar := [.int (nI i)]) (st := []) C lkX12_135 kd_96 (m_blurOf (wi M 96 0 0) (t := i) (show i < 24 by omega) (MT_s (Or.inl (by decide)) h)) (by decide) rfl (Nat.le_of_ble_eq_true rfl) rfl dX12_picture_140 ?_
  exact ar_ireturn C rfl dX12_picture_143 ⟨rfl, rfl, rfl⟩
set_option maxHeartbeats 4000000 in
set_option maxRecDepth 100000 in
theorem m_focused_bad (M : Mm) (t w : Int32)  (hbad : (f_in t 0 (M.1 96 7 - 1) && f_in w 0 1) = false) : AX mX12_focused 5 [.ref 96, .int t, .int w] M (some (.int (-1000001))) (wi M 96 0 0) := by
  refine AM_ofF (by decide +kernel) (Nat.le_of_ble_eq_true rfl) (fun X V C _ _ => ?_)
  show AW X V mX12_focused.2.2.1 T0 M 0 0 _ 0 [(0, .ref 96), (1, .int t), (2, .int w)] []
  refine ar_aload_n (n := 0) C dX12_focused_0 rfl rfl ?_
  refine ar_iconst (v := 0) C dX12_focused_1 (by decide) ?_
  refine ar_puti C flX12_59 kd_96 dX12_focused_2 ?_
  refine ar_aload_n (n := 0) C dX12_focused_5 rfl rfl ?_
  refine ar_iload_n (n := 1) C dX12_focused_6 rfl rfl ?_
  refine cV1 (ar := [.int t]) (st := []) C lkX12_110 kd_96 (k_mThing (wi M 96 0 0) t) (by decide) rfl (Nat.le_of_ble_eq_true rfl) rfl dX12_focused_7 ?_
  refine ar_if_eqB (tgt := 23) C dX12_focused_10 (by decide) (fun c_1 => ?_) (fun c_1 => ?_)
  · refine ar_ldc C kcX12_79 dX12_focused_23 ?_
    exact ar_ireturn C rfl dX12_focused_25 ⟨rfl, rfl, rfl⟩
  · refine ar_iload_n (n := 2) C dX12_focused_13 rfl rfl ?_
    refine ar_i2l C dX12_focused_14 ?_
    refine ar_lconst (v := 0) C dX12_focused_15 (by decide) ?_
    refine ar_lconst (v := 1) C dX12_focused_16 (by decide) ?_
    refine cS1 (ar := [.long w.toInt64, .long 0, .long 1]) (st := []) C lkX12_69 (k_inI (wi M 96 0 0) w 0 1 _ _ (by decide) (by decide)) (by decide) rfl (Nat.le_of_ble_eq_true rfl) rfl dX12_focused_17 ?_
    refine ar_if_neB (tgt := 26) C dX12_focused_20 (by decide) (fun c_2 => ?_) (fun c_2 => ?_)
    · exact absurd hbad (by first | (rw [c_1]; decide) | simp [*, show f_in t 0 (M.1 96 7 - 1) = true from c_1])
    · refine ar_ldc C kcX12_79 dX12_focused_23 ?_
      exact ar_ireturn C rfl dX12_focused_25 ⟨rfl, rfl, rfl⟩
set_option maxHeartbeats 4000000 in
set_option maxRecDepth 100000 in
theorem l_focused {X : Ctx} {V : Vx} {Q : State → Prop} (C : Cx X V mX12_focused 5) (M : Mm) {i : Nat} (hi : i < 24) {ρ β : Nat → Int32} {x y z : Int32} (h : MT M i ρ β x y z) (w : Int32) (kk : ∀ lv, AW X V mX12_focused.2.2.1 T0 M 0 0 Q 86 [(5, .int lv), (4, .int (f_B ρ β x z (foc (f_B ρ β x z) 1000))), (3, .int (nI (foc (f_B ρ β x z) 1000))), (0, .ref 96), (1, .int (nI i)), (2, .int w)] []) : ∀ (m : Nat) (j : Nat), 1 ≤ j → j ≤ 1000 → 1000 - j < m → AW X V mX12_focused.2.2.1 T0 (M) 0 0 Q 44 [(5, .int (nI (j + 1))), (4, .int (f_B ρ β x z (foc (f_B ρ β x z) j))), (3, .int (nI (foc (f_B ρ β x z) j))), (0, .ref 96), (1, .int (nI i)), (2, .int w)] [] := by
  intro m
  induction m with
  | zero => intro j _ _ h; exact absurd h (Nat.not_lt_zero _)
  | succ m ih =>
    intro j hj1 hj0 hmz
    have h0 := h
    obtain ⟨e1, e2, e3, e4, e5, h6, h7, h8⟩ := h0
    obtain ⟨x1, x2, x3, x4⟩ := RT_x h8
    refine ar_iload (n := 0) C dX12_focused_44 rfl ?_
    refine ar_sipush (v := 1000) C dX12_focused_46 (by decide) ?_
    refine ar_icmp_gt (tgt := 86) C dX12_focused_49 (by decide) (fun c_1 => ?_) (fun c_1 => ?_)
    · have hj : j = 1000 := by have q := (nI_ltI (a := 1000) (b := j + 1) (by omega) (by omega)).mp c_1; omega
      subst hj
      exact kk _
    · have hj : j + 1 ≤ 1000 := by
        rcases Nat.lt_or_ge j 1000 with q | q
        · exact q
        · exact absurd (nI_lt (a := 1000) (b := j + 1) (by omega) (by omega)) c_1
      refine ar_aload_n (n := 3) C dX12_focused_52 rfl rfl ?_
      refine ar_iload_n (n := 4) C dX12_focused_53 rfl rfl ?_
      refine ar_aload_n (n := 3) C dX12_focused_54 rfl rfl ?_
      refine ar_iload_n (n := 4) C dX12_focused_55 rfl rfl ?_
      refine ar_iload (n := 0) C dX12_focused_56 rfl ?_
      refine cV1 (ar := [.int (nI i), .int (nI (j + 1))]) (st := [.int (nI i), .ref 96]) C lkX12_120 kd_96 (m_farBy M (t := i) hi h (nI (j + 1)) (by rw [nI_toInt (by omega)]; omega) (by rw [nI_toInt (by omega)]; omega)) (by decide) rfl (Nat.le_of_ble_eq_true rfl) rfl dX12_focused_58 ?_
      refine cV1 (ar := [.int (nI i), .int (f_far β x z (nI (j + 1)))]) (st := []) C lkX12_126 kd_96 (m_blurBy M (t := i) hi h (f_far β x z (nI (j + 1)))) (by decide) rfl (Nat.le_of_ble_eq_true rfl) rfl dX12_focused_61 ?_
      refine ar_istore (als' := [(6, .int (f_blur ρ (f_far β x z (nI (j + 1))) z)), (5, .int (nI (j + 1))), (4, .int (f_B ρ β x z (foc (f_B ρ β x z) j))), (3, .int (nI (foc (f_B ρ β x z) j))), (0, .ref 96), (1, .int (nI i)), (2, .int w)]) C dX12_focused_64 (by decide) rfl ?_
      refine ar_iload (n := 0) C dX12_focused_66 rfl ?_
      refine ar_iload (n := 2) C dX12_focused_68 rfl ?_
      refine ar_icmp_ge (tgt := 80) C dX12_focused_70 (by decide) (fun c_2 => ?_) (fun c_2 => ?_)
      · refine ar_iinc (n := 1) (v := (nI (j + 1 + 1))) (als' := [(5, .int (nI (j + 1 + 1))), (6, .int (f_blur ρ (f_far β x z (nI (j + 1))) z)), (4, .int (f_B ρ β x z (foc (f_B ρ β x z) j))), (3, .int (nI (foc (f_B ρ β x z) j))), (0, .ref 96), (1, .int (nI i)), (2, .int w)]) C dX12_focused_80 rfl (nI_1 _) (by decide) rfl ?_
        refine ar_goto (tgt := 44) C dX12_focused_83 (by decide) ?_
        refine ar_sub [0, 2, 3, 4, 5, 6] rfl ?_
        have eF : foc (f_B ρ β x z) (j + 1) = foc (f_B ρ β x z) j := if_pos c_2
        have h9 := ih (j + 1) (by omega) (by omega) (by omega)
        rw [eF] at h9
        exact h9
      · refine ar_iload (n := 0) C dX12_focused_73 rfl ?_
        refine ar_istore (als' := [(4, .int (f_blur ρ (f_far β x z (nI (j + 1))) z)), (6, .int (f_blur ρ (f_far β x z (nI (j + 1))) z)), (5, .int (nI (j + 1))), (3, .int (nI (foc (f_B ρ β x z) j))), (0, .ref 96), (1, .int (nI i)), (2, .int w)]) C dX12_focused_75 (by decide) rfl ?_
        refine ar_iload (n := 2) C dX12_focused_77 rfl ?_
        refine ar_istore_n (als' := [(3, .int (nI (j + 1))), (4, .int (f_blur ρ (f_far β x z (nI (j + 1))) z)), (6, .int (f_blur ρ (f_far β x z (nI (j + 1))) z)), (5, .int (nI (j + 1))), (0, .ref 96), (1, .int (nI i)), (2, .int w)]) C dX12_focused_79 rfl (by decide) rfl ?_
        refine ar_iinc (n := 3) (v := (nI (j + 1 + 1))) (als' := [(5, .int (nI (j + 1 + 1))), (3, .int (nI (j + 1))), (4, .int (f_blur ρ (f_far β x z (nI (j + 1))) z)), (6, .int (f_blur ρ (f_far β x z (nI (j + 1))) z)), (0, .ref 96), (1, .int (nI i)), (2, .int w)]) C dX12_focused_80 rfl (nI_1 _) (by decide) rfl ?_
        refine ar_goto (tgt := 44) C dX12_focused_83 (by decide) ?_
        refine ar_sub [0, 2, 1, 4, 5, 6] rfl ?_
        have eF : foc (f_B ρ β x z) (j + 1) = j + 1 := if_neg (fun q => c_2 q)
        have h9 := ih (j + 1) (by omega) (by omega) (by omega)
        rw [eF] at h9
        exact h9
set_option maxHeartbeats 4000000 in
set_option maxRecDepth 100000 in
theorem m_focused_0 (M : Mm) {i N : Nat} (hN : M.1 96 7 = nI N) (hi : i < N) (hN24 : N ≤ 24) {ρ β : Nat → Int32} {x y z : Int32} (h : MT M i ρ β x y z) : AX mX12_focused 5 [.ref 96, .int (nI i), .int 0] M (some (.int (nI (foc (f_B ρ β x z) 1000)))) (wi M 96 0 0) := by
  have h0 := h
  obtain ⟨e1, e2, e3, e4, e5, h6, h7, h8⟩ := h0
  obtain ⟨x1, x2, x3, x4⟩ := RT_x h8
  refine AM_ofF (by decide +kernel) (Nat.le_of_ble_eq_true rfl) (fun X V C _ _ => ?_)
  show AW X V mX12_focused.2.2.1 T0 M 0 0 _ 0 [(0, .ref 96), (1, .int (nI i)), (2, .int 0)] []
  refine ar_aload_n (n := 0) C dX12_focused_0 rfl rfl ?_
  refine ar_iconst (v := 0) C dX12_focused_1 (by decide) ?_
  refine ar_puti C flX12_59 kd_96 dX12_focused_2 ?_
  refine ar_aload_n (n := 0) C dX12_focused_5 rfl rfl ?_
  refine ar_iload_n (n := 1) C dX12_focused_6 rfl rfl ?_
  refine cV1 (ar := [.int (nI i)]) (st := []) C lkX12_110 kd_96 (k_mThing (wi M 96 0 0) (nI i)) (by decide) rfl (Nat.le_of_ble_eq_true rfl) rfl dX12_focused_7 ?_
  refine ar_if_eqB (tgt := 23) C dX12_focused_10 (by decide) (fun c_1 => False.elim (Bool.noConfusion ((inN hN hi hN24).symm.trans c_1))) (fun _ => ?_)
  refine ar_iload_n (n := 2) C dX12_focused_13 rfl rfl ?_
  refine ar_i2l C dX12_focused_14 ?_
  refine ar_lconst (v := 0) C dX12_focused_15 (by decide) ?_
  refine ar_lconst (v := 1) C dX12_focused_16 (by decide) ?_
  refine cS1 (ar := [.long ((0 : Int32).toInt64), .long 0, .long 1]) (st := []) C lkX12_69 (k_inI (wi M 96 0 0) 0 0 1 _ _ (by decide) (by decide)) (by decide) rfl (Nat.le_of_ble_eq_true rfl) rfl dX12_focused_17 ?_
  refine ar_if_neB (tgt := 26) C dX12_focused_20 (by decide) (fun _ => ?_) (fun c_2 => False.elim (Bool.noConfusion ((show f_in 0 0 1 = true by decide).symm.trans c_2)))
  refine ar_iconst (v := 1) C dX12_focused_26 (by decide) ?_
  refine ar_istore_n (als' := [(3, .int 1), (0, .ref 96), (1, .int (nI i)), (2, .int 0)]) C dX12_focused_27 rfl (by decide) rfl ?_
  refine ar_aload_n (n := 1) C dX12_focused_28 rfl rfl ?_
  refine ar_iload_n (n := 2) C dX12_focused_29 rfl rfl ?_
  refine ar_aload_n (n := 1) C dX12_focused_30 rfl rfl ?_
  refine ar_iload_n (n := 2) C dX12_focused_31 rfl rfl ?_
  refine ar_iconst (v := 1) C dX12_focused_32 (by decide) ?_
  refine cV1 (ar := [.int (nI i), .int 1]) (st := [.int (nI i), .ref 96]) C lkX12_120 kd_96 (m_farBy (wi M 96 0 0) (t := i) (show i < 24 by omega) (MT_s (Or.inl (by decide)) h) 1 (by decide) (by decide)) (by decide) rfl (Nat.le_of_ble_eq_true rfl) rfl dX12_focused_33 ?_
  refine cV1 (ar := [.int (nI i), .int (f_far β x z 1)]) (st := []) C lkX12_126 kd_96 (m_blurBy (wi M 96 0 0) (t := i) (show i < 24 by omega) (MT_s (Or.inl (by decide)) h) (f_far β x z 1)) (by decide) rfl (Nat.le_of_ble_eq_true rfl) rfl dX12_focused_36 ?_
  refine ar_istore (als' := [(4, .int (f_blur ρ (f_far β x z 1) z)), (3, .int 1), (0, .ref 96), (1, .int (nI i)), (2, .int 0)]) C dX12_focused_39 (by decide) rfl ?_
  refine ar_iconst (v := 2) C dX12_focused_41 (by decide) ?_
  refine ar_istore (als' := [(5, .int 2), (4, .int (f_blur ρ (f_far β x z 1) z)), (3, .int 1), (0, .ref 96), (1, .int (nI i)), (2, .int 0)]) C dX12_focused_42 (by decide) rfl ?_
  refine ar_als (show _ = [(5, .int (nI (1 + 1))), (4, .int (f_B ρ β x z (foc (f_B ρ β x z) 1))), (3, .int (nI (foc (f_B ρ β x z) 1))), (0, .ref 96), (1, .int (nI i)), (2, .int 0)] by rw [foc_1]; rfl) (l_focused C (wi M 96 0 0) (show i < 24 by omega) (MT_s (Or.inl (by decide)) h) 0 (fun lv => ?_) 1001 1 (by omega) (by omega) (by omega))
  refine ar_iload_n (n := 5) C dX12_focused_86 rfl rfl ?_
  refine ar_if_ne (tgt := 94) C dX12_focused_87 (by decide) (fun c => absurd rfl c) (fun _ => ?_)
  refine ar_iload_n (n := 2) C dX12_focused_90 rfl rfl ?_
  refine ar_goto (tgt := 96) C dX12_focused_91 (by decide) ?_
  exact ar_ireturn C rfl dX12_focused_96 ⟨rfl, rfl, rfl⟩
set_option maxHeartbeats 4000000 in
set_option maxRecDepth 100000 in
theorem m_focused_1 (M : Mm) {i N : Nat} (hN : M.1 96 7 = nI N) (hi : i < N) (hN24 : N ≤ 24) {ρ β : Nat → Int32} {x y z : Int32} (h : MT M i ρ β x y z) : AX mX12_focused 5 [.ref 96, .int (nI i), .int 1] M (some (.int (f_B ρ β x z (foc (f_B ρ β x z) 1000)))) (wi M 96 0 0) := by
  have h0 := h
  obtain ⟨e1, e2, e3, e4, e5, h6, h7, h8⟩ := h0
  obtain ⟨x1, x2, x3, x4⟩ := RT_x h8
  refine AM_ofF (by decide +kernel) (Nat.le_of_ble_eq_true rfl) (fun X V C _ _ => ?_)
  show AW X V mX12_focused.2.2.1 T0 M 0 0 _ 0 [(0, .ref 96), (1, .int (nI i)), (2, .int 1)] []
  refine ar_aload_n (n := 0) C dX12_focused_0 rfl rfl ?_
  refine ar_iconst (v := 0) C dX12_focused_1 (by decide) ?_
  refine ar_puti C flX12_59 kd_96 dX12_focused_2 ?_
  refine ar_aload_n (n := 0) C dX12_focused_5 rfl rfl ?_
  refine ar_iload_n (n := 1) C dX12_focused_6 rfl rfl ?_
  refine cV1 (ar := [.int (nI i)]) (st := []) C lkX12_110 kd_96 (k_mThing (wi M 96 0 0) (nI i)) (by decide) rfl (Nat.le_of_ble_eq_true rfl) rfl dX12_focused_7 ?_
  refine ar_if_eqB (tgt := 23) C dX12_focused_10 (by decide) (fun c_1 => False.elim (Bool.noConfusion ((inN hN hi hN24).symm.trans c_1))) (fun _ => ?_)
  refine ar_iload_n (n := 2) C dX12_focused_13 rfl rfl ?_
  refine ar_i2l C dX12_focused_14 ?_
  refine ar_lconst (v := 0) C dX12_focused_15 (by decide) ?_
  refine ar_lconst (v := 1) C dX12_focused_16 (by decide) ?_
  refine cS1 (ar := [.long ((1 : Int32).toInt64), .long 0, .long 1]) (st := []) C lkX12_69 (k_inI (wi M 96 0 0) 1 0 1 _ _ (by decide) (by decide)) (by decide) rfl (Nat.le_of_ble_eq_true rfl) rfl dX12_focused_17 ?_
  refine ar_if_neB (tgt := 26) C dX12_focused_20 (by decide) (fun _ => ?_) (fun c_2 => False.elim (Bool.noConfusion ((show f_in 1 0 1 = true by decide).symm.trans c_2)))
  refine ar_iconst (v := 1) C dX12_focused_26 (by decide) ?_
  refine ar_istore_n (als' := [(3, .int 1), (0, .ref 96), (1, .int (nI i)), (2, .int 1)]) C dX12_focused_27 rfl (by decide) rfl ?_
  refine ar_aload_n (n := 1) C dX12_focused_28 rfl rfl ?_
  refine ar_iload_n (n := 2) C dX12_focused_29 rfl rfl ?_
  refine ar_aload_n (n := 1) C dX12_focused_30 rfl rfl ?_
  refine ar_iload_n (n := 2) C dX12_focused_31 rfl rfl ?_
  refine ar_iconst (v := 1) C dX12_focused_32 (by decide) ?_
  refine cV1 (ar := [.int (nI i), .int 1]) (st := [.int (nI i), .ref 96]) C lkX12_120 kd_96 (m_farBy (wi M 96 0 0) (t := i) (show i < 24 by omega) (MT_s (Or.inl (by decide)) h) 1 (by decide) (by decide)) (by decide) rfl (Nat.le_of_ble_eq_true rfl) rfl dX12_focused_33 ?_
  refine cV1 (ar := [.int (nI i), .int (f_far β x z 1)]) (st := []) C lkX12_126 kd_96 (m_blurBy (wi M 96 0 0) (t := i) (show i < 24 by omega) (MT_s (Or.inl (by decide)) h) (f_far β x z 1)) (by decide) rfl (Nat.le_of_ble_eq_true rfl) rfl dX12_focused_36 ?_
  refine ar_istore (als' := [(4, .int (f_blur ρ (f_far β x z 1) z)), (3, .int 1), (0, .ref 96), (1, .int (nI i)), (2, .int 1)]) C dX12_focused_39 (by decide) rfl ?_
  refine ar_iconst (v := 2) C dX12_focused_41 (by decide) ?_
  refine ar_istore (als' := [(5, .int 2), (4, .int (f_blur ρ (f_far β x z 1) z)), (3, .int 1), (0, .ref 96), (1, .int (nI i)), (2, .int 1)]) C dX12_focused_42 (by decide) rfl ?_
  refine ar_als (show _ = [(5, .int (nI (1 + 1))), (4, .int (f_B ρ β x z (foc (f_B ρ β x z) 1))), (3, .int (nI (foc (f_B ρ β x z) 1))), (0, .ref 96), (1, .int (nI i)), (2, .int 1)] by rw [foc_1]; rfl) (l_focused C (wi M 96 0 0) (show i < 24 by omega) (MT_s (Or.inl (by decide)) h) 1 (fun lv => ?_) 1001 1 (by omega) (by omega) (by omega))
  refine ar_iload_n (n := 5) C dX12_focused_86 rfl rfl ?_
  refine ar_if_ne (tgt := 94) C dX12_focused_87 (by decide) (fun _ => ?_) (fun c => absurd c (by decide))
  refine ar_iload (n := 1) C dX12_focused_94 rfl ?_
  exact ar_ireturn C rfl dX12_focused_96 ⟨rfl, rfl, rfl⟩
set_option maxHeartbeats 4000000 in
set_option maxRecDepth 100000 in
theorem m_kind_bad (M : Mm) (t : Int32)  (hbad : (f_in t 0 (M.1 96 7 - 1)) = false) : AX mX12_kind 6 [.ref 96, .int t] M (some (.int (-1000001))) (wi M 96 0 0) := by
  refine AM_ofF (by decide +kernel) (Nat.le_of_ble_eq_true rfl) (fun X V C _ _ => ?_)
  show AW X V mX12_kind.2.2.1 T0 M 0 0 _ 0 [(0, .ref 96), (1, .int t)] []
  refine ar_aload_n (n := 0) C dX12_kind_0 rfl rfl ?_
  refine ar_iconst (v := 0) C dX12_kind_1 (by decide) ?_
  refine ar_puti C flX12_59 kd_96 dX12_kind_2 ?_
  refine ar_aload_n (n := 0) C dX12_kind_5 rfl rfl ?_
  refine ar_iload_n (n := 1) C dX12_kind_6 rfl rfl ?_
  refine cV1 (ar := [.int t]) (st := []) C lkX12_110 kd_96 (k_mThing (wi M 96 0 0) t) (by decide) rfl (Nat.le_of_ble_eq_true rfl) rfl dX12_kind_7 ?_
  refine ar_if_eqB (tgt := 21) C dX12_kind_10 (by decide) (fun c_1 => ?_) (fun c_1 => ?_)
  · refine ar_ldc C kcX12_79 dX12_kind_21 ?_
    exact ar_ireturn C rfl dX12_kind_23 ⟨rfl, rfl, rfl⟩
  · exact absurd hbad (by first | (rw [c_1]; decide) | simp [*, show f_in t 0 (M.1 96 7 - 1) = true from c_1])
set_option maxHeartbeats 4000000 in
set_option maxRecDepth 100000 in
theorem m_kind_ok (M : Mm) {i N : Nat} (hN : M.1 96 7 = nI N) (hi : i < N) (hN24 : N ≤ 24) {ρ β : Nat → Int32} {x y z : Int32} (h : MT M i ρ β x y z) : AX mX12_kind 6 [.ref 96, .int (nI i)] M (some (.int (P_kind ρ β x y z))) (wi M 96 0 0) := by
  have h0 := h
  obtain ⟨e1, e2, e3, e4, e5, h6, h7, h8⟩ := h0
  obtain ⟨x1, x2, x3, x4⟩ := RT_x h8
  refine AM_ofF (by decide +kernel) (Nat.le_of_ble_eq_true rfl) (fun X V C _ _ => ?_)
  show AW X V mX12_kind.2.2.1 T0 M 0 0 _ 0 [(0, .ref 96), (1, .int (nI i))] []
  refine ar_aload_n (n := 0) C dX12_kind_0 rfl rfl ?_
  refine ar_iconst (v := 0) C dX12_kind_1 (by decide) ?_
  refine ar_puti C flX12_59 kd_96 dX12_kind_2 ?_
  refine ar_aload_n (n := 0) C dX12_kind_5 rfl rfl ?_
  refine ar_iload_n (n := 1) C dX12_kind_6 rfl rfl ?_
  refine cV1 (ar := [.int (nI i)]) (st := []) C lkX12_110 kd_96 (k_mThing (wi M 96 0 0) (nI i)) (by decide) rfl (Nat.le_of_ble_eq_true rfl) rfl dX12_kind_7 ?_
  refine ar_if_eqB (tgt := 21) C dX12_kind_10 (by decide) (fun c_1 => False.elim (Bool.noConfusion ((inN hN hi hN24).symm.trans c_1))) (fun _ => ?_)
  refine ar_aload_n (n := 0) C dX12_kind_13 rfl rfl ?_
  refine ar_iload_n (n := 1) C dX12_kind_14 rfl rfl ?_
  refine cV1 (ar := [.int (nI i)]) (st := []) C lkX12_227 kd_96 (m_kindOf (wi M 96 0 0) (t := i) (show i < 24 by omega) (MT_s (Or.inl (by decide)) h)) (by decide) rfl (Nat.le_of_ble_eq_true rfl) rfl dX12_kind_15 ?_
  refine ar_goto (tgt := 23) C dX12_kind_18 (by decide) ?_
  exact ar_ireturn C rfl dX12_kind_23 ⟨rfl, rfl, rfl⟩
set_option maxHeartbeats 4000000 in
set_option maxRecDepth 100000 in
theorem m_as_bad (M : Mm) (t w : Int32)  (hbad : (f_in t 0 (M.1 96 7 - 1) && f_in w 0 3) = false) : AX mX12_as 6 [.ref 96, .int t, .int w] M (some (.int (-1000001))) (wi M 96 0 0) := by
  refine AM_ofF (by decide +kernel) (Nat.le_of_ble_eq_true rfl) (fun X V C _ _ => ?_)
  show AW X V mX12_as.2.2.1 T0 M 0 0 _ 0 [(0, .ref 96), (1, .int t), (2, .int w)] []
  refine ar_aload_n (n := 0) C dX12_as_0 rfl rfl ?_
  refine ar_iconst (v := 0) C dX12_as_1 (by decide) ?_
  refine ar_puti C flX12_59 kd_96 dX12_as_2 ?_
  refine ar_aload_n (n := 0) C dX12_as_5 rfl rfl ?_
  refine ar_iload_n (n := 1) C dX12_as_6 rfl rfl ?_
  refine cV1 (ar := [.int t]) (st := []) C lkX12_110 kd_96 (k_mThing (wi M 96 0 0) t) (by decide) rfl (Nat.le_of_ble_eq_true rfl) rfl dX12_as_7 ?_
  refine ar_if_eqB (tgt := 25) C dX12_as_10 (by decide) (fun c_1 => ?_) (fun c_1 => ?_)
  · refine ar_ldc C kcX12_79 dX12_as_25 ?_
    exact ar_ireturn C rfl dX12_as_27 ⟨rfl, rfl, rfl⟩
  · refine ar_iload_n (n := 2) C dX12_as_13 rfl rfl ?_
    refine ar_i2l C dX12_as_14 ?_
    refine ar_lconst (v := 0) C dX12_as_15 (by decide) ?_
    refine ar_ldc2 C kcX12_169 dX12_as_16 ?_
    refine cS1 (ar := [.long w.toInt64, .long 0, .long 3]) (st := []) C lkX12_69 (k_inI (wi M 96 0 0) w 0 3 _ _ (by decide) (by decide)) (by decide) rfl (Nat.le_of_ble_eq_true rfl) rfl dX12_as_19 ?_
    refine ar_if_neB (tgt := 28) C dX12_as_22 (by decide) (fun c_2 => ?_) (fun c_2 => ?_)
    · exact absurd hbad (by first | (rw [c_1]; decide) | simp [*, show f_in t 0 (M.1 96 7 - 1) = true from c_1])
    · refine ar_ldc C kcX12_79 dX12_as_25 ?_
      exact ar_ireturn C rfl dX12_as_27 ⟨rfl, rfl, rfl⟩
set_option maxHeartbeats 4000000 in
set_option maxRecDepth 100000 in
theorem m_as_yes (M : Mm) {i N : Nat} (hN : M.1 96 7 = nI N) (hi : i < N) (hN24 : N ≤ 24) {ρ β : Nat → Int32} {x y z : Int32} (h : MT M i ρ β x y z) (w : Int32) (hw : f_in w 0 3 = true) (ho : f_isOf (P_kind ρ β x y z) w = true) : AX mX12_as 6 [.ref 96, .int (nI i), .int w] M (some (.int z)) (wi (wi M 96 0 0) 96 1 0) := by
  have h0 := h
  obtain ⟨e1, e2, e3, e4, e5, h6, h7, h8⟩ := h0
  obtain ⟨x1, x2, x3, x4⟩ := RT_x h8
  refine AM_ofF (by decide +kernel) (Nat.le_of_ble_eq_true rfl) (fun X V C _ _ => ?_)
  show AW X V mX12_as.2.2.1 T0 M 0 0 _ 0 [(0, .ref 96), (1, .int (nI i)), (2, .int w)] []
  refine ar_aload_n (n := 0) C dX12_as_0 rfl rfl ?_
  refine ar_iconst (v := 0) C dX12_as_1 (by decide) ?_
  refine ar_puti C flX12_59 kd_96 dX12_as_2 ?_
  refine ar_aload_n (n := 0) C dX12_as_5 rfl rfl ?_
  refine ar_iload_n (n := 1) C dX12_as_6 rfl rfl ?_
  refine cV1 (ar := [.int (nI i)]) (st := []) C lkX12_110 kd_96 (k_mThing (wi M 96 0 0) (nI i)) (by decide) rfl (Nat.le_of_ble_eq_true rfl) rfl dX12_as_7 ?_
  refine ar_if_eqB (tgt := 25) C dX12_as_10 (by decide) (fun c_1 => False.elim (Bool.noConfusion ((inN hN hi hN24).symm.trans c_1))) (fun _ => ?_)
  refine ar_iload_n (n := 2) C dX12_as_13 rfl rfl ?_
  refine ar_i2l C dX12_as_14 ?_
  refine ar_lconst (v := 0) C dX12_as_15 (by decide) ?_
  refine ar_ldc2 C kcX12_169 dX12_as_16 ?_
  refine cS1 (ar := [.long w.toInt64, .long 0, .long 3]) (st := []) C lkX12_69 (k_inI (wi M 96 0 0) w 0 3 _ _ (by decide) (by decide)) (by decide) rfl (Nat.le_of_ble_eq_true rfl) rfl dX12_as_19 ?_
  refine ar_if_neB (tgt := 28) C dX12_as_22 (by decide) (fun _ => ?_) (fun c_2 => False.elim (Bool.noConfusion (hw.symm.trans c_2)))
  refine ar_aload_n (n := 0) C dX12_as_28 rfl rfl ?_
  refine ar_iconst (v := 0) C dX12_as_29 (by decide) ?_
  refine ar_puti C flX12_63 kd_96 dX12_as_30 ?_
  refine ar_aload_n (n := 0) C dX12_as_33 rfl rfl ?_
  refine ar_iload_n (n := 1) C dX12_as_34 rfl rfl ?_
  refine cV1 (ar := [.int (nI i)]) (st := []) C lkX12_227 kd_96 (m_kindOf (wi (wi M 96 0 0) 96 1 0) (t := i) (show i < 24 by omega) (MT_s (Or.inl (by decide)) (MT_s (Or.inl (by decide)) h))) (by decide) rfl (Nat.le_of_ble_eq_true rfl) rfl dX12_as_35 ?_
  refine ar_iload_n (n := 2) C dX12_as_38 rfl rfl ?_
  refine cS1 (ar := [.int (P_kind ρ β x y z), .int w]) (st := []) C lkX12_230 (k_mOf (wi (wi M 96 0 0) 96 1 0) (P_kind ρ β x y z) w) (by decide) rfl (Nat.le_of_ble_eq_true rfl) rfl dX12_as_39 ?_
  refine ar_if_eqB (tgt := 54) C dX12_as_42 (by decide) (fun c_3 => False.elim (Bool.noConfusion (ho.symm.trans c_3))) (fun _ => ?_)
  refine ar_aload_n (n := 0) C dX12_as_45 rfl rfl ?_
  refine ar_getr C flX12_31 rfl kd_96 rf_96_10 dX12_as_46 ?_
  refine ar_iload_n (n := 1) C dX12_as_49 rfl rfl ?_
  refine ar_ialdV (j := i) (v := M.1 104 i) C kd_104 rfl (show i < 24 by omega) (by simp [wi, wl]; try omega) dX12_as_50 ?_
  refine ar_topi z e5 ?_
  refine ar_goto (tgt := 59) C dX12_as_51 (by decide) ?_
  exact ar_ireturn C rfl dX12_as_59 ⟨rfl, rfl, rfl⟩
set_option maxHeartbeats 4000000 in
set_option maxRecDepth 100000 in
theorem m_as_no (M : Mm) {i N : Nat} (hN : M.1 96 7 = nI N) (hi : i < N) (hN24 : N ≤ 24) {ρ β : Nat → Int32} {x y z : Int32} (h : MT M i ρ β x y z) (w : Int32) (hw : f_in w 0 3 = true) (ho : f_isOf (P_kind ρ β x y z) w = false) : AX mX12_as 6 [.ref 96, .int (nI i), .int w] M (some (.int (-1000013))) (wi (wi (wi M 96 0 0) 96 1 0) 96 1 3) := by
  have h0 := h
  obtain ⟨e1, e2, e3, e4, e5, h6, h7, h8⟩ := h0
  obtain ⟨x1, x2, x3, x4⟩ := RT_x h8
  refine AM_ofF (by decide +kernel) (Nat.le_of_ble_eq_true rfl) (fun X V C _ _ => ?_)
  show AW X V mX12_as.2.2.1 T0 M 0 0 _ 0 [(0, .ref 96), (1, .int (nI i)), (2, .int w)] []
  refine ar_aload_n (n := 0) C dX12_as_0 rfl rfl ?_
  refine ar_iconst (v := 0) C dX12_as_1 (by decide) ?_
  refine ar_puti C flX12_59 kd_96 dX12_as_2 ?_
  refine ar_aload_n (n := 0) C dX12_as_5 rfl rfl ?_
  refine ar_iload_n (n := 1) C dX12_as_6 rfl rfl ?_
  refine cV1 (ar := [.int (nI i)]) (st := []) C lkX12_110 kd_96 (k_mThing (wi M 96 0 0) (nI i)) (by decide) rfl (Nat.le_of_ble_eq_true rfl) rfl dX12_as_7 ?_
  refine ar_if_eqB (tgt := 25) C dX12_as_10 (by decide) (fun c_1 => False.elim (Bool.noConfusion ((inN hN hi hN24).symm.trans c_1))) (fun _ => ?_)
  refine ar_iload_n (n := 2) C dX12_as_13 rfl rfl ?_
  refine ar_i2l C dX12_as_14 ?_
  refine ar_lconst (v := 0) C dX12_as_15 (by decide) ?_
  refine ar_ldc2 C kcX12_169 dX12_as_16 ?_
  refine cS1 (ar := [.long w.toInt64, .long 0, .long 3]) (st := []) C lkX12_69 (k_inI (wi M 96 0 0) w 0 3 _ _ (by decide) (by decide)) (by decide) rfl (Nat.le_of_ble_eq_true rfl) rfl dX12_as_19 ?_
  refine ar_if_neB (tgt := 28) C dX12_as_22 (by decide) (fun _ => ?_) (fun c_2 => False.elim (Bool.noConfusion (hw.symm.trans c_2)))
  refine ar_aload_n (n := 0) C dX12_as_28 rfl rfl ?_
  refine ar_iconst (v := 0) C dX12_as_29 (by decide) ?_
  refine ar_puti C flX12_63 kd_96 dX12_as_30 ?_
  refine ar_aload_n (n := 0) C dX12_as_33 rfl rfl ?_
  refine ar_iload_n (n := 1) C dX12_as_34 rfl rfl ?_
  refine cV1 (ar := [.int (nI i)]) (st := []) C lkX12_227 kd_96 (m_kindOf (wi (wi M 96 0 0) 96 1 0) (t := i) (show i < 24 by omega) (MT_s (Or.inl (by decide)) (MT_s (Or.inl (by decide)) h))) (by decide) rfl (Nat.le_of_ble_eq_true rfl) rfl dX12_as_35 ?_
  refine ar_iload_n (n := 2) C dX12_as_38 rfl rfl ?_
  refine cS1 (ar := [.int (P_kind ρ β x y z), .int w]) (st := []) C lkX12_230 (k_mOf (wi (wi M 96 0 0) 96 1 0) (P_kind ρ β x y z) w) (by decide) rfl (Nat.le_of_ble_eq_true rfl) rfl dX12_as_39 ?_
  refine ar_if_eqB (tgt := 54) C dX12_as_42 (by decide) (fun _ => ?_) (fun c_3 => False.elim (Bool.noConfusion (ho.symm.trans c_3)))
  refine ar_aload_n (n := 0) C dX12_as_54 rfl rfl ?_
  refine ar_iconst (v := 3) C dX12_as_55 (by decide) ?_
  refine cV1 (ar := [.int 3]) (st := []) C lkX12_80 kd_96 (k_mFound (wi (wi M 96 0 0) 96 1 0) 3) (by decide) rfl (Nat.le_of_ble_eq_true rfl) rfl dX12_as_56 ?_
  exact ar_ireturn C rfl dX12_as_59 ⟨rfl, rfl, rfl⟩
set_option maxHeartbeats 4000000 in
set_option maxRecDepth 100000 in
theorem m_trace_no (M : Mm) (w : Int32) (h : f_in w 0 (M.1 96 28 - 1) = false) : AX mX12_trace 1 [.ref 96, .int w] M (some (.int (-1000000))) (wi M 96 0 0) := by
  refine AM_ofF (by decide +kernel) (Nat.le_of_ble_eq_true rfl) (fun X V C _ _ => ?_)
  show AW X V mX12_trace.2.2.1 T0 M 0 0 _ 0 [(0, .ref 96), (1, .int w)] []
  refine ar_aload_n (n := 0) C dX12_trace_0 rfl rfl ?_
  refine ar_iconst (v := 0) C dX12_trace_1 (by decide) ?_
  refine ar_puti C flX12_59 kd_96 dX12_trace_2 ?_
  refine ar_iload_n (n := 1) C dX12_trace_5 rfl rfl ?_
  refine ar_i2l C dX12_trace_6 ?_
  refine ar_lconst (v := 0) C dX12_trace_7 (by decide) ?_
  refine ar_aload_n (n := 0) C dX12_trace_8 rfl rfl ?_
  refine ar_getiV (v := M.1 96 28) C flX12_233 kd_96 rfl dX12_trace_9 ?_
  refine ar_iconst (v := 1) C dX12_trace_12 (by decide) ?_
  refine ar_isub C dX12_trace_13 ?_
  refine ar_i2l C dX12_trace_14 ?_
  refine cS1 (ar := [.long w.toInt64, .long 0, .long (((M.1 96 28) - 1).toInt64)]) (st := []) C lkX12_69 (k_inI (wi M 96 0 0) w 0 ((M.1 96 28) - 1) _ _ (by decide) rfl) (by decide) rfl (Nat.le_of_ble_eq_true rfl) rfl dX12_trace_15 ?_
  refine ar_if_eqB (tgt := 30) C dX12_trace_18 (by decide) (fun _ => ?_) (fun c_1 => False.elim (Bool.noConfusion (h.symm.trans c_1)))
  refine ar_ldc C kcX12_149 dX12_trace_30 ?_
  exact ar_ireturn C rfl dX12_trace_32 ⟨rfl, rfl, rfl⟩
set_option maxHeartbeats 4000000 in
set_option maxRecDepth 100000 in
theorem m_trace_ok (M : Mm) {j : Nat} (hj : j < 16) (h : f_in (nI j) 0 (M.1 96 28 - 1) = true) : AX mX12_trace 1 [.ref 96, .int (nI j)] M (some (.int (M.1 112 j))) (wi M 96 0 0) := by
  refine AM_ofF (by decide +kernel) (Nat.le_of_ble_eq_true rfl) (fun X V C _ _ => ?_)
  show AW X V mX12_trace.2.2.1 T0 M 0 0 _ 0 [(0, .ref 96), (1, .int (nI j))] []
  refine ar_aload_n (n := 0) C dX12_trace_0 rfl rfl ?_
  refine ar_iconst (v := 0) C dX12_trace_1 (by decide) ?_
  refine ar_puti C flX12_59 kd_96 dX12_trace_2 ?_
  refine ar_iload_n (n := 1) C dX12_trace_5 rfl rfl ?_
  refine ar_i2l C dX12_trace_6 ?_
  refine ar_lconst (v := 0) C dX12_trace_7 (by decide) ?_
  refine ar_aload_n (n := 0) C dX12_trace_8 rfl rfl ?_
  refine ar_getiV (v := M.1 96 28) C flX12_233 kd_96 rfl dX12_trace_9 ?_
  refine ar_iconst (v := 1) C dX12_trace_12 (by decide) ?_
  refine ar_isub C dX12_trace_13 ?_
  refine ar_i2l C dX12_trace_14 ?_
  refine cS1 (ar := [.long ((nI j).toInt64), .long 0, .long (((M.1 96 28) - 1).toInt64)]) (st := []) C lkX12_69 (k_inI (wi M 96 0 0) (nI j) 0 ((M.1 96 28) - 1) _ _ (by decide) rfl) (by decide) rfl (Nat.le_of_ble_eq_true rfl) rfl dX12_trace_15 ?_
  refine ar_if_eqB (tgt := 30) C dX12_trace_18 (by decide) (fun c_1 => False.elim (Bool.noConfusion (h.symm.trans c_1))) (fun _ => ?_)
  refine ar_aload_n (n := 0) C dX12_trace_21 rfl rfl ?_
  refine ar_getr C flX12_56 rfl kd_96 rf_96_27 dX12_trace_22 ?_
  refine ar_iload_n (n := 1) C dX12_trace_25 rfl rfl ?_
  refine ar_ialdV (j := j) (v := M.1 112 j) C kd_112 rfl hj (by simp [wi, wl]; try omega) dX12_trace_26 ?_
  refine ar_goto (tgt := 32) C dX12_trace_27 (by decide) ?_
  exact ar_ireturn C rfl dX12_trace_32 ⟨rfl, rfl, rfl⟩
set_option maxHeartbeats 4000000 in
set_option maxRecDepth 100000 in
theorem m_mark_bad (M : Mm) (a k x y : Int32)  (hbad : (f_in a 0 7 && f_in k 0 23 && f_in x (-1000) 1000 && f_in y (-1000) 1000) = false) : AX mX12_mark 2 [.ref 96, .int a, .int k, .int x, .int y] M (some (.int (-1000001))) (wi M 96 0 0) := by
  refine AM_ofF (by decide +kernel) (Nat.le_of_ble_eq_true rfl) (fun X V C _ _ => ?_)
  show AW X V mX12_mark.2.2.1 T0 M 0 0 _ 0 [(0, .ref 96), (1, .int a), (2, .int k), (3, .int x), (4, .int y)] []
  refine ar_aload_n (n := 0) C dX12_mark_0 rfl rfl ?_
  refine ar_iconst (v := 0) C dX12_mark_1 (by decide) ?_
  refine ar_puti C flX12_59 kd_96 dX12_mark_2 ?_
  refine ar_iload_n (n := 1) C dX12_mark_5 rfl rfl ?_
  refine cS1 (ar := [.int a]) (st := []) C lkX12_140 (k_mTrace (wi M 96 0 0) a) (by decide) rfl (Nat.le_of_ble_eq_true rfl) rfl dX12_mark_6 ?_
  refine ar_if_eqB (tgt := 48) C dX12_mark_9 (by decide) (fun c_1 => ?_) (fun c_1 => ?_)
  · refine ar_ldc C kcX12_79 dX12_mark_48 ?_
    exact ar_ireturn C rfl dX12_mark_50 ⟨rfl, rfl, rfl⟩
  · refine ar_iload_n (n := 2) C dX12_mark_12 rfl rfl ?_
    refine cS1 (ar := [.int k]) (st := []) C lkX12_143 (k_mNumber (wi M 96 0 0) k) (by decide) rfl (Nat.le_of_ble_eq_true rfl) rfl dX12_mark_13 ?_
    refine ar_if_eqB (tgt := 48) C dX12_mark_16 (by decide) (fun c_2 => ?_) (fun c_2 => ?_)
    · refine ar_ldc C kcX12_79 dX12_mark_48 ?_
      exact ar_ireturn C rfl dX12_mark_50 ⟨rfl, rfl, rfl⟩
    · refine ar_iload_n (n := 3) C dX12_mark_19 rfl rfl ?_
      refine ar_i2l C dX12_mark_20 ?_
      refine ar_ldc2 C kcX12_96 dX12_mark_21 ?_
      refine ar_ldc2 C kcX12_98 dX12_mark_24 ?_
      refine cS1 (ar := [.long x.toInt64, .long (-1000), .long 1000]) (st := []) C lkX12_69 (k_inI (wi M 96 0 0) x (-1000) 1000 _ _ (by decide) (by decide)) (by decide) rfl (Nat.le_of_ble_eq_true rfl) rfl dX12_mark_27 ?_
      refine ar_if_eqB (tgt := 48) C dX12_mark_30 (by decide) (fun c_3 => ?_) (fun c_3 => ?_)
      · refine ar_ldc C kcX12_79 dX12_mark_48 ?_
        exact ar_ireturn C rfl dX12_mark_50 ⟨rfl, rfl, rfl⟩
      · refine ar_iload (n := 4) C dX12_mark_33 rfl ?_
        refine ar_i2l C dX12_mark_35 ?_
        refine ar_ldc2 C kcX12_96 dX12_mark_36 ?_
        refine ar_ldc2 C kcX12_98 dX12_mark_39 ?_
        refine cS1 (ar := [.long y.toInt64, .long (-1000), .long 1000]) (st := []) C lkX12_69 (k_inI (wi M 96 0 0) y (-1000) 1000 _ _ (by decide) (by decide)) (by decide) rfl (Nat.le_of_ble_eq_true rfl) rfl dX12_mark_42 ?_
        refine ar_if_neB (tgt := 51) C dX12_mark_45 (by decide) (fun c_4 => ?_) (fun c_4 => ?_)
        · exact absurd hbad (by first | (rw [c_1]; decide) | simp [*])
        · refine ar_ldc C kcX12_79 dX12_mark_48 ?_
          exact ar_ireturn C rfl dX12_mark_50 ⟨rfl, rfl, rfl⟩
set_option maxHeartbeats 4000000 in
set_option maxRecDepth 100000 in
theorem m_mark_ok (M : Mm) {a k : Nat} (ha : a < 8) (hk : k < 24) (x y : Int32) (hx : f_in x (-1000) 1000 = true) (hy : f_in y (-1000) 1000 = true) : AX mX12_mark 2 [.ref 96, .int (nI a), .int (nI k), .int x, .int y] M (some (.int (if M.1 105 (24 * a + k) = 0 then 1 else 0))) (wi (wi (wi (wi M 96 0 0) 105 (24 * a + k) 1) 106 (24 * a + k) x) 107 (24 * a + k) y) := by
  refine AM_ofF (by decide +kernel) (Nat.le_of_ble_eq_true rfl) (fun X V C _ _ => ?_)
  show AW X V mX12_mark.2.2.1 T0 M 0 0 _ 0 [(0, .ref 96), (1, .int (nI a)), (2, .int (nI k)), (3, .int x), (4, .int y)] []
  refine ar_aload_n (n := 0) C dX12_mark_0 rfl rfl ?_
  refine ar_iconst (v := 0) C dX12_mark_1 (by decide) ?_
  refine ar_puti C flX12_59 kd_96 dX12_mark_2 ?_
  refine ar_iload_n (n := 1) C dX12_mark_5 rfl rfl ?_
  refine cS1 (ar := [.int (nI a)]) (st := []) C lkX12_140 (k_mTrace (wi M 96 0 0) (nI a)) (by decide) rfl (Nat.le_of_ble_eq_true rfl) rfl dX12_mark_6 ?_
  refine ar_if_eqB (tgt := 48) C dX12_mark_9 (by decide) (fun c_1 => False.elim (Bool.noConfusion ((in7 ha).symm.trans c_1))) (fun _ => ?_)
  refine ar_iload_n (n := 2) C dX12_mark_12 rfl rfl ?_
  refine cS1 (ar := [.int (nI k)]) (st := []) C lkX12_143 (k_mNumber (wi M 96 0 0) (nI k)) (by decide) rfl (Nat.le_of_ble_eq_true rfl) rfl dX12_mark_13 ?_
  refine ar_if_eqB (tgt := 48) C dX12_mark_16 (by decide) (fun c_2 => False.elim (Bool.noConfusion ((in23 hk).symm.trans c_2))) (fun _ => ?_)
  refine ar_iload_n (n := 3) C dX12_mark_19 rfl rfl ?_
  refine ar_i2l C dX12_mark_20 ?_
  refine ar_ldc2 C kcX12_96 dX12_mark_21 ?_
  refine ar_ldc2 C kcX12_98 dX12_mark_24 ?_
  refine cS1 (ar := [.long x.toInt64, .long (-1000), .long 1000]) (st := []) C lkX12_69 (k_inI (wi M 96 0 0) x (-1000) 1000 _ _ (by decide) (by decide)) (by decide) rfl (Nat.le_of_ble_eq_true rfl) rfl dX12_mark_27 ?_
  refine ar_if_eqB (tgt := 48) C dX12_mark_30 (by decide) (fun c_3 => False.elim (Bool.noConfusion (hx.symm.trans c_3))) (fun _ => ?_)
  refine ar_iload (n := 4) C dX12_mark_33 rfl ?_
  refine ar_i2l C dX12_mark_35 ?_
  refine ar_ldc2 C kcX12_96 dX12_mark_36 ?_
  refine ar_ldc2 C kcX12_98 dX12_mark_39 ?_
  refine cS1 (ar := [.long y.toInt64, .long (-1000), .long 1000]) (st := []) C lkX12_69 (k_inI (wi M 96 0 0) y (-1000) 1000 _ _ (by decide) (by decide)) (by decide) rfl (Nat.le_of_ble_eq_true rfl) rfl dX12_mark_42 ?_
  refine ar_if_neB (tgt := 51) C dX12_mark_45 (by decide) (fun _ => ?_) (fun c_4 => False.elim (Bool.noConfusion (hy.symm.trans c_4)))
  refine ar_aload_n (n := 0) C dX12_mark_51 rfl rfl ?_
  refine ar_getr C flX12_34 rfl kd_96 rf_96_11 dX12_mark_52 ?_
  refine ar_bipush (v := 24) C dX12_mark_55 (by decide) ?_
  refine ar_iload_n (n := 1) C dX12_mark_57 rfl rfl ?_
  refine ar_imul C dX12_mark_58 ?_
  refine ar_iload_n (n := 2) C dX12_mark_59 rfl rfl ?_
  refine ar_iadd C dX12_mark_60 ?_
  refine ar_zaldV (j := 24 * a + k) (v := M.1 105 (24 * a + k)) C kd_105 (ix24 a k) (by omega) (by simp [wi, wl]; try omega) dX12_mark_61 ?_
  refine ar_istore (als' := [(5, .int (M.1 105 (24 * a + k))), (0, .ref 96), (1, .int (nI a)), (2, .int (nI k)), (3, .int x), (4, .int y)]) C dX12_mark_62 (by decide) rfl ?_
  refine ar_aload_n (n := 1) C dX12_mark_64 rfl rfl ?_
  refine ar_getr C flX12_34 rfl kd_96 rf_96_11 dX12_mark_65 ?_
  refine ar_bipush (v := 24) C dX12_mark_68 (by decide) ?_
  refine ar_iload_n (n := 2) C dX12_mark_70 rfl rfl ?_
  refine ar_imul C dX12_mark_71 ?_
  refine ar_iload_n (n := 3) C dX12_mark_72 rfl rfl ?_
  refine ar_iadd C dX12_mark_73 ?_
  refine ar_iconst (v := 1) C dX12_mark_74 (by decide) ?_
  refine ar_zast (j := 24 * a + k) C kd_105 (ix24 a k) (by omega) rfl dX12_mark_75 ?_
  refine ar_aload_n (n := 1) C dX12_mark_76 rfl rfl ?_
  refine ar_getr C flX12_38 rfl kd_96 rf_96_12 dX12_mark_77 ?_
  refine ar_bipush (v := 24) C dX12_mark_80 (by decide) ?_
  refine ar_iload_n (n := 2) C dX12_mark_82 rfl rfl ?_
  refine ar_imul C dX12_mark_83 ?_
  refine ar_iload_n (n := 3) C dX12_mark_84 rfl rfl ?_
  refine ar_iadd C dX12_mark_85 ?_
  refine ar_iload_n (n := 4) C dX12_mark_86 rfl rfl ?_
  refine ar_iast (j := 24 * a + k) C kd_106 (ix24 a k) (by omega) dX12_mark_87 ?_
  refine ar_aload_n (n := 1) C dX12_mark_88 rfl rfl ?_
  refine ar_getr C flX12_41 rfl kd_96 rf_96_13 dX12_mark_89 ?_
  refine ar_bipush (v := 24) C dX12_mark_92 (by decide) ?_
  refine ar_iload_n (n := 2) C dX12_mark_94 rfl rfl ?_
  refine ar_imul C dX12_mark_95 ?_
  refine ar_iload_n (n := 3) C dX12_mark_96 rfl rfl ?_
  refine ar_iadd C dX12_mark_97 ?_
  refine ar_iload (n := 5) C dX12_mark_98 rfl ?_
  refine ar_iast (j := 24 * a + k) C kd_107 (ix24 a k) (by omega) dX12_mark_100 ?_
  refine ar_iload (n := 0) C dX12_mark_101 rfl ?_
  refine ar_if_eq (tgt := 110) C dX12_mark_103 (by decide) (fun c_5 => ?_) (fun c_5 => ?_)
  · refine ar_iconst (v := 1) C dX12_mark_110 (by decide) ?_
    exact ar_ireturn C rfl dX12_mark_111 ⟨by rw [if_pos c_5], rfl, rfl⟩
  · refine ar_iconst (v := 0) C dX12_mark_106 (by decide) ?_
    refine ar_goto (tgt := 111) C dX12_mark_107 (by decide) ?_
    exact ar_ireturn C rfl dX12_mark_111 ⟨by rw [if_neg c_5], rfl, rfl⟩
set_option maxHeartbeats 4000000 in
set_option maxRecDepth 100000 in
theorem m_rub_bad (M : Mm) (a k : Int32)  (hbad : (f_in a 0 7 && f_in k 0 23) = false) : AX mX12_rub 2 [.ref 96, .int a, .int k] M (some (.int (-1000001))) (wi M 96 0 0) := by
  refine AM_ofF (by decide +kernel) (Nat.le_of_ble_eq_true rfl) (fun X V C _ _ => ?_)
  show AW X V mX12_rub.2.2.1 T0 M 0 0 _ 0 [(0, .ref 96), (1, .int a), (2, .int k)] []
  refine ar_aload_n (n := 0) C dX12_rub_0 rfl rfl ?_
  refine ar_iconst (v := 0) C dX12_rub_1 (by decide) ?_
  refine ar_puti C flX12_59 kd_96 dX12_rub_2 ?_
  refine ar_iload_n (n := 1) C dX12_rub_5 rfl rfl ?_
  refine cS1 (ar := [.int a]) (st := []) C lkX12_140 (k_mTrace (wi M 96 0 0) a) (by decide) rfl (Nat.le_of_ble_eq_true rfl) rfl dX12_rub_6 ?_
  refine ar_if_eqB (tgt := 19) C dX12_rub_9 (by decide) (fun c_1 => ?_) (fun c_1 => ?_)
  · refine ar_ldc C kcX12_79 dX12_rub_19 ?_
    exact ar_ireturn C rfl dX12_rub_21 ⟨rfl, rfl, rfl⟩
  · refine ar_iload_n (n := 2) C dX12_rub_12 rfl rfl ?_
    refine cS1 (ar := [.int k]) (st := []) C lkX12_143 (k_mNumber (wi M 96 0 0) k) (by decide) rfl (Nat.le_of_ble_eq_true rfl) rfl dX12_rub_13 ?_
    refine ar_if_neB (tgt := 22) C dX12_rub_16 (by decide) (fun c_2 => ?_) (fun c_2 => ?_)
    · exact absurd hbad (by first | (rw [c_1]; decide) | simp [*])
    · refine ar_ldc C kcX12_79 dX12_rub_19 ?_
      exact ar_ireturn C rfl dX12_rub_21 ⟨rfl, rfl, rfl⟩
set_option maxHeartbeats 4000000 in
set_option maxRecDepth 100000 in
theorem m_rub_ok (M : Mm) {a k : Nat} (ha : a < 8) (hk : k < 24) : AX mX12_rub 2 [.ref 96, .int (nI a), .int (nI k)] M (some (.int (if M.1 105 (24 * a + k) = 0 then 0 else 1))) (wi (wi M 96 0 0) 105 (24 * a + k) 0) := by
  refine AM_ofF (by decide +kernel) (Nat.le_of_ble_eq_true rfl) (fun X V C _ _ => ?_)
  show AW X V mX12_rub.2.2.1 T0 M 0 0 _ 0 [(0, .ref 96), (1, .int (nI a)), (2, .int (nI k))] []
  refine ar_aload_n (n := 0) C dX12_rub_0 rfl rfl ?_
  refine ar_iconst (v := 0) C dX12_rub_1 (by decide) ?_
  refine ar_puti C flX12_59 kd_96 dX12_rub_2 ?_
  refine ar_iload_n (n := 1) C dX12_rub_5 rfl rfl ?_
  refine cS1 (ar := [.int (nI a)]) (st := []) C lkX12_140 (k_mTrace (wi M 96 0 0) (nI a)) (by decide) rfl (Nat.le_of_ble_eq_true rfl) rfl dX12_rub_6 ?_
  refine ar_if_eqB (tgt := 19) C dX12_rub_9 (by decide) (fun c_1 => False.elim (Bool.noConfusion ((in7 ha).symm.trans c_1))) (fun _ => ?_)
  refine ar_iload_n (n := 2) C dX12_rub_12 rfl rfl ?_
  refine cS1 (ar := [.int (nI k)]) (st := []) C lkX12_143 (k_mNumber (wi M 96 0 0) (nI k)) (by decide) rfl (Nat.le_of_ble_eq_true rfl) rfl dX12_rub_13 ?_
  refine ar_if_neB (tgt := 22) C dX12_rub_16 (by decide) (fun _ => ?_) (fun c_2 => False.elim (Bool.noConfusion ((in23 hk).symm.trans c_2)))
  refine ar_aload_n (n := 0) C dX12_rub_22 rfl rfl ?_
  refine ar_getr C flX12_34 rfl kd_96 rf_96_11 dX12_rub_23 ?_
  refine ar_bipush (v := 24) C dX12_rub_26 (by decide) ?_
  refine ar_iload_n (n := 1) C dX12_rub_28 rfl rfl ?_
  refine ar_imul C dX12_rub_29 ?_
  refine ar_iload_n (n := 2) C dX12_rub_30 rfl rfl ?_
  refine ar_iadd C dX12_rub_31 ?_
  refine ar_zaldV (j := 24 * a + k) (v := M.1 105 (24 * a + k)) C kd_105 (ix24 a k) (by omega) (by simp [wi, wl]; try omega) dX12_rub_32 ?_
  refine ar_istore_n (als' := [(3, .int (M.1 105 (24 * a + k))), (0, .ref 96), (1, .int (nI a)), (2, .int (nI k))]) C dX12_rub_33 rfl (by decide) rfl ?_
  refine ar_aload_n (n := 1) C dX12_rub_34 rfl rfl ?_
  refine ar_getr C flX12_34 rfl kd_96 rf_96_11 dX12_rub_35 ?_
  refine ar_bipush (v := 24) C dX12_rub_38 (by decide) ?_
  refine ar_iload_n (n := 2) C dX12_rub_40 rfl rfl ?_
  refine ar_imul C dX12_rub_41 ?_
  refine ar_iload_n (n := 3) C dX12_rub_42 rfl rfl ?_
  refine ar_iadd C dX12_rub_43 ?_
  refine ar_iconst (v := 0) C dX12_rub_44 (by decide) ?_
  refine ar_zast (j := 24 * a + k) C kd_105 (ix24 a k) (by omega) rfl dX12_rub_45 ?_
  refine ar_iload_n (n := 0) C dX12_rub_46 rfl rfl ?_
  refine ar_if_eq (tgt := 54) C dX12_rub_47 (by decide) (fun c_3 => ?_) (fun c_3 => ?_)
  · refine ar_iconst (v := 0) C dX12_rub_54 (by decide) ?_
    exact ar_ireturn C rfl dX12_rub_55 ⟨by rw [if_pos c_3], rfl, rfl⟩
  · refine ar_iconst (v := 1) C dX12_rub_50 (by decide) ?_
    refine ar_goto (tgt := 55) C dX12_rub_51 (by decide) ?_
    exact ar_ireturn C rfl dX12_rub_55 ⟨by rw [if_neg c_3], rfl, rfl⟩
set_option maxHeartbeats 4000000 in
set_option maxRecDepth 100000 in
theorem m_marked_bad (M : Mm) (a k w : Int32)  (hbad : (f_in a 0 7 && f_in k 0 23 && f_in w 0 1) = false) : AX mX12_marked 2 [.ref 96, .int a, .int k, .int w] M (some (.int (-1000001))) (wi M 96 0 0) := by
  refine AM_ofF (by decide +kernel) (Nat.le_of_ble_eq_true rfl) (fun X V C _ _ => ?_)
  show AW X V mX12_marked.2.2.1 T0 M 0 0 _ 0 [(0, .ref 96), (1, .int a), (2, .int k), (3, .int w)] []
  refine ar_aload_n (n := 0) C dX12_marked_0 rfl rfl ?_
  refine ar_iconst (v := 0) C dX12_marked_1 (by decide) ?_
  refine ar_puti C flX12_59 kd_96 dX12_marked_2 ?_
  refine ar_iload_n (n := 1) C dX12_marked_5 rfl rfl ?_
  refine cS1 (ar := [.int a]) (st := []) C lkX12_140 (k_mTrace (wi M 96 0 0) a) (by decide) rfl (Nat.le_of_ble_eq_true rfl) rfl dX12_marked_6 ?_
  refine ar_if_eqB (tgt := 29) C dX12_marked_9 (by decide) (fun c_1 => ?_) (fun c_1 => ?_)
  · refine ar_ldc C kcX12_79 dX12_marked_29 ?_
    exact ar_ireturn C rfl dX12_marked_31 ⟨rfl, rfl, rfl⟩
  · refine ar_iload_n (n := 2) C dX12_marked_12 rfl rfl ?_
    refine cS1 (ar := [.int k]) (st := []) C lkX12_143 (k_mNumber (wi M 96 0 0) k) (by decide) rfl (Nat.le_of_ble_eq_true rfl) rfl dX12_marked_13 ?_
    refine ar_if_eqB (tgt := 29) C dX12_marked_16 (by decide) (fun c_2 => ?_) (fun c_2 => ?_)
    · refine ar_ldc C kcX12_79 dX12_marked_29 ?_
      exact ar_ireturn C rfl dX12_marked_31 ⟨rfl, rfl, rfl⟩
    · refine ar_iload_n (n := 3) C dX12_marked_19 rfl rfl ?_
      refine ar_i2l C dX12_marked_20 ?_
      refine ar_lconst (v := 0) C dX12_marked_21 (by decide) ?_
      refine ar_lconst (v := 1) C dX12_marked_22 (by decide) ?_
      refine cS1 (ar := [.long w.toInt64, .long 0, .long 1]) (st := []) C lkX12_69 (k_inI (wi M 96 0 0) w 0 1 _ _ (by decide) (by decide)) (by decide) rfl (Nat.le_of_ble_eq_true rfl) rfl dX12_marked_23 ?_
      refine ar_if_neB (tgt := 32) C dX12_marked_26 (by decide) (fun c_3 => ?_) (fun c_3 => ?_)
      · exact absurd hbad (by first | (rw [c_1]; decide) | simp [*])
      · refine ar_ldc C kcX12_79 dX12_marked_29 ?_
        exact ar_ireturn C rfl dX12_marked_31 ⟨rfl, rfl, rfl⟩
set_option maxHeartbeats 4000000 in
set_option maxRecDepth 100000 in
theorem m_marked_0 (M : Mm) {a k : Nat} (ha : a < 8) (hk : k < 24) : AX mX12_marked 2 [.ref 96, .int (nI a), .int (nI k), .int 0] M (some (.int (if M.1 105 (24 * a + k) = 0 then -1000000 else M.1 106 (24 * a + k)))) (wi M 96 0 0) := by
  refine AM_ofF (by decide +kernel) (Nat.le_of_ble_eq_true rfl) (fun X V C _ _ => ?_)
  show AW X V mX12_marked.2.2.1 T0 M 0 0 _ 0 [(0, .ref 96), (1, .int (nI a)), (2, .int (nI k)), (3, .int 0)] []
  refine ar_aload_n (n := 0) C dX12_marked_0 rfl rfl ?_
  refine ar_iconst (v := 0) C dX12_marked_1 (by decide) ?_
  refine ar_puti C flX12_59 kd_96 dX12_marked_2 ?_
  refine ar_iload_n (n := 1) C dX12_marked_5 rfl rfl ?_
  refine cS1 (ar := [.int (nI a)]) (st := []) C lkX12_140 (k_mTrace (wi M 96 0 0) (nI a)) (by decide) rfl (Nat.le_of_ble_eq_true rfl) rfl dX12_marked_6 ?_
  refine ar_if_eqB (tgt := 29) C dX12_marked_9 (by decide) (fun c_1 => False.elim (Bool.noConfusion ((in7 ha).symm.trans c_1))) (fun _ => ?_)
  refine ar_iload_n (n := 2) C dX12_marked_12 rfl rfl ?_
  refine cS1 (ar := [.int (nI k)]) (st := []) C lkX12_143 (k_mNumber (wi M 96 0 0) (nI k)) (by decide) rfl (Nat.le_of_ble_eq_true rfl) rfl dX12_marked_13 ?_
  refine ar_if_eqB (tgt := 29) C dX12_marked_16 (by decide) (fun c_2 => False.elim (Bool.noConfusion ((in23 hk).symm.trans c_2))) (fun _ => ?_)
  refine ar_iload_n (n := 3) C dX12_marked_19 rfl rfl ?_
  refine ar_i2l C dX12_marked_20 ?_
  refine ar_lconst (v := 0) C dX12_marked_21 (by decide) ?_
  refine ar_lconst (v := 1) C dX12_marked_22 (by decide) ?_
  refine cS1 (ar := [.long ((0 : Int32).toInt64), .long 0, .long 1]) (st := []) C lkX12_69 (k_inI (wi M 96 0 0) 0 0 1 _ _ (by decide) (by decide)) (by decide) rfl (Nat.le_of_ble_eq_true rfl) rfl dX12_marked_23 ?_
  refine ar_if_neB (tgt := 32) C dX12_marked_26 (by decide) (fun _ => ?_) (fun c_3 => False.elim (Bool.noConfusion ((show f_in 0 0 1 = true by decide).symm.trans c_3)))
  refine ar_aload_n (n := 0) C dX12_marked_32 rfl rfl ?_
  refine ar_getr C flX12_34 rfl kd_96 rf_96_11 dX12_marked_33 ?_
  refine ar_bipush (v := 24) C dX12_marked_36 (by decide) ?_
  refine ar_iload_n (n := 1) C dX12_marked_38 rfl rfl ?_
  refine ar_imul C dX12_marked_39 ?_
  refine ar_iload_n (n := 2) C dX12_marked_40 rfl rfl ?_
  refine ar_iadd C dX12_marked_41 ?_
  refine ar_zaldV (j := 24 * a + k) (v := M.1 105 (24 * a + k)) C kd_105 (ix24 a k) (by omega) (by simp [wi, wl]; try omega) dX12_marked_42 ?_
  refine ar_if_ne (tgt := 51) C dX12_marked_43 (by decide) (fun c_4 => ?_) (fun c_4 => ?_)
  · refine ar_iload_n (n := 3) C dX12_marked_51 rfl rfl ?_
    refine ar_if_ne (tgt := 69) C dX12_marked_52 (by decide) (fun c_5 => absurd c_5 (by decide)) (fun _ => ?_)
    refine ar_aload_n (n := 0) C dX12_marked_55 rfl rfl ?_
    refine ar_getr C flX12_38 rfl kd_96 rf_96_12 dX12_marked_56 ?_
    refine ar_bipush (v := 24) C dX12_marked_59 (by decide) ?_
    refine ar_iload_n (n := 1) C dX12_marked_61 rfl rfl ?_
    refine ar_imul C dX12_marked_62 ?_
    refine ar_iload_n (n := 2) C dX12_marked_63 rfl rfl ?_
    refine ar_iadd C dX12_marked_64 ?_
    refine ar_ialdV (j := 24 * a + k) (v := M.1 106 (24 * a + k)) C kd_106 (ix24 a k) (by omega) (by simp [wi, wl]; try omega) dX12_marked_65 ?_
    refine ar_goto (tgt := 80) C dX12_marked_66 (by decide) ?_
    exact ar_ireturn C rfl dX12_marked_80 ⟨by rw [if_neg c_4], rfl, rfl⟩
  · refine ar_ldc C kcX12_149 dX12_marked_46 ?_
    refine ar_goto (tgt := 80) C dX12_marked_48 (by decide) ?_
    exact ar_ireturn C rfl dX12_marked_80 ⟨by rw [if_pos c_4], rfl, rfl⟩
set_option maxHeartbeats 4000000 in
set_option maxRecDepth 100000 in
theorem m_marked_1 (M : Mm) {a k : Nat} (ha : a < 8) (hk : k < 24) : AX mX12_marked 2 [.ref 96, .int (nI a), .int (nI k), .int 1] M (some (.int (if M.1 105 (24 * a + k) = 0 then -1000000 else M.1 107 (24 * a + k)))) (wi M 96 0 0) := by
  refine AM_ofF (by decide +kernel) (Nat.le_of_ble_eq_true rfl) (fun X V C _ _ => ?_)
  show AW X V mX12_marked.2.2.1 T0 M 0 0 _ 0 [(0, .ref 96), (1, .int (nI a)), (2, .int (nI k)), (3, .int 1)] []
  refine ar_aload_n (n := 0) C dX12_marked_0 rfl rfl ?_
  refine ar_iconst (v := 0) C dX12_marked_1 (by decide) ?_
  refine ar_puti C flX12_59 kd_96 dX12_marked_2 ?_
  refine ar_iload_n (n := 1) C dX12_marked_5 rfl rfl ?_
  refine cS1 (ar := [.int (nI a)]) (st := []) C lkX12_140 (k_mTrace (wi M 96 0 0) (nI a)) (by decide) rfl (Nat.le_of_ble_eq_true rfl) rfl dX12_marked_6 ?_
  refine ar_if_eqB (tgt := 29) C dX12_marked_9 (by decide) (fun c_1 => False.elim (Bool.noConfusion ((in7 ha).symm.trans c_1))) (fun _ => ?_)
  refine ar_iload_n (n := 2) C dX12_marked_12 rfl rfl ?_
  refine cS1 (ar := [.int (nI k)]) (st := []) C lkX12_143 (k_mNumber (wi M 96 0 0) (nI k)) (by decide) rfl (Nat.le_of_ble_eq_true rfl) rfl dX12_marked_13 ?_
  refine ar_if_eqB (tgt := 29) C dX12_marked_16 (by decide) (fun c_2 => False.elim (Bool.noConfusion ((in23 hk).symm.trans c_2))) (fun _ => ?_)
  refine ar_iload_n (n := 3) C dX12_marked_19 rfl rfl ?_
  refine ar_i2l C dX12_marked_20 ?_
  refine ar_lconst (v := 0) C dX12_marked_21 (by decide) ?_
  refine ar_lconst (v := 1) C dX12_marked_22 (by decide) ?_
  refine cS1 (ar := [.long ((1 : Int32).toInt64), .long 0, .long 1]) (st := []) C lkX12_69 (k_inI (wi M 96 0 0) 1 0 1 _ _ (by decide) (by decide)) (by decide) rfl (Nat.le_of_ble_eq_true rfl) rfl dX12_marked_23 ?_
  refine ar_if_neB (tgt := 32) C dX12_marked_26 (by decide) (fun _ => ?_) (fun c_3 => False.elim (Bool.noConfusion ((show f_in 1 0 1 = true by decide).symm.trans c_3)))
  refine ar_aload_n (n := 0) C dX12_marked_32 rfl rfl ?_
  refine ar_getr C flX12_34 rfl kd_96 rf_96_11 dX12_marked_33 ?_
  refine ar_bipush (v := 24) C dX12_marked_36 (by decide) ?_
  refine ar_iload_n (n := 1) C dX12_marked_38 rfl rfl ?_
  refine ar_imul C dX12_marked_39 ?_
  refine ar_iload_n (n := 2) C dX12_marked_40 rfl rfl ?_
  refine ar_iadd C dX12_marked_41 ?_
  refine ar_zaldV (j := 24 * a + k) (v := M.1 105 (24 * a + k)) C kd_105 (ix24 a k) (by omega) (by simp [wi, wl]; try omega) dX12_marked_42 ?_
  refine ar_if_ne (tgt := 51) C dX12_marked_43 (by decide) (fun c_4 => ?_) (fun c_4 => ?_)
  · refine ar_iload_n (n := 3) C dX12_marked_51 rfl rfl ?_
    refine ar_if_ne (tgt := 69) C dX12_marked_52 (by decide) (fun _ => ?_) (fun c_5 => absurd c_5 (by decide))
    refine ar_aload_n (n := 0) C dX12_marked_69 rfl rfl ?_
    refine ar_getr C flX12_41 rfl kd_96 rf_96_13 dX12_marked_70 ?_
    refine ar_bipush (v := 24) C dX12_marked_73 (by decide) ?_
    refine ar_iload_n (n := 1) C dX12_marked_75 rfl rfl ?_
    refine ar_imul C dX12_marked_76 ?_
    refine ar_iload_n (n := 2) C dX12_marked_77 rfl rfl ?_
    refine ar_iadd C dX12_marked_78 ?_
    refine ar_ialdV (j := 24 * a + k) (v := M.1 107 (24 * a + k)) C kd_107 (ix24 a k) (by omega) (by simp [wi, wl]; try omega) dX12_marked_79 ?_
    exact ar_ireturn C rfl dX12_marked_80 ⟨by rw [if_neg c_4], rfl, rfl⟩
  · refine ar_ldc C kcX12_149 dX12_marked_46 ?_
    refine ar_goto (tgt := 80) C dX12_marked_48 (by decide) ?_
    exact ar_ireturn C rfl dX12_marked_80 ⟨by rw [if_pos c_4], rfl, rfl⟩
set_option maxHeartbeats 4000000 in
set_option maxRecDepth 100000 in
theorem m_stand_bad (M : Mm) (r u v w d : Int32)  (hbad : (f_in r 0 1 && f_in u (-1000) 1000 && f_in v (-1000) 1000 && f_in w 0 1000 && f_in d 1 1000) = false) : AX mX12_stand 3 [.ref 96, .int r, .int u, .int v, .int w, .int d] M (some (.int (-1000001))) (wi M 96 0 0) := by
  refine AM_ofF (by decide +kernel) (Nat.le_of_ble_eq_true rfl) (fun X V C _ _ => ?_)
  show AW X V mX12_stand.2.2.1 T0 M 0 0 _ 0 [(0, .ref 96), (1, .int r), (2, .int u), (3, .int v), (4, .int w), (5, .int d)] []
  refine ar_aload_n (n := 0) C dX12_stand_0 rfl rfl ?_
  refine ar_iconst (v := 0) C dX12_stand_1 (by decide) ?_
  refine ar_puti C flX12_59 kd_96 dX12_stand_2 ?_
  refine ar_iload_n (n := 1) C dX12_stand_5 rfl rfl ?_
  refine ar_i2l C dX12_stand_6 ?_
  refine ar_lconst (v := 0) C dX12_stand_7 (by decide) ?_
  refine ar_lconst (v := 1) C dX12_stand_8 (by decide) ?_
  refine cS1 (ar := [.long r.toInt64, .long 0, .long 1]) (st := []) C lkX12_69 (k_inI (wi M 96 0 0) r 0 1 _ _ (by decide) (by decide)) (by decide) rfl (Nat.le_of_ble_eq_true rfl) rfl dX12_stand_9 ?_
  refine ar_if_eqB (tgt := 69) C dX12_stand_12 (by decide) (fun c_1 => ?_) (fun c_1 => ?_)
  · refine ar_ldc C kcX12_79 dX12_stand_69 ?_
    exact ar_ireturn C rfl dX12_stand_71 ⟨rfl, rfl, rfl⟩
  · refine ar_iload_n (n := 2) C dX12_stand_15 rfl rfl ?_
    refine ar_i2l C dX12_stand_16 ?_
    refine ar_ldc2 C kcX12_96 dX12_stand_17 ?_
    refine ar_ldc2 C kcX12_98 dX12_stand_20 ?_
    refine cS1 (ar := [.long u.toInt64, .long (-1000), .long 1000]) (st := []) C lkX12_69 (k_inI (wi M 96 0 0) u (-1000) 1000 _ _ (by decide) (by decide)) (by decide) rfl (Nat.le_of_ble_eq_true rfl) rfl dX12_stand_23 ?_
    refine ar_if_eqB (tgt := 69) C dX12_stand_26 (by decide) (fun c_2 => ?_) (fun c_2 => ?_)
    · refine ar_ldc C kcX12_79 dX12_stand_69 ?_
      exact ar_ireturn C rfl dX12_stand_71 ⟨rfl, rfl, rfl⟩
    · refine ar_iload_n (n := 3) C dX12_stand_29 rfl rfl ?_
      refine ar_i2l C dX12_stand_30 ?_
      refine ar_ldc2 C kcX12_96 dX12_stand_31 ?_
      refine ar_ldc2 C kcX12_98 dX12_stand_34 ?_
      refine cS1 (ar := [.long v.toInt64, .long (-1000), .long 1000]) (st := []) C lkX12_69 (k_inI (wi M 96 0 0) v (-1000) 1000 _ _ (by decide) (by decide)) (by decide) rfl (Nat.le_of_ble_eq_true rfl) rfl dX12_stand_37 ?_
      refine ar_if_eqB (tgt := 69) C dX12_stand_40 (by decide) (fun c_3 => ?_) (fun c_3 => ?_)
      · refine ar_ldc C kcX12_79 dX12_stand_69 ?_
        exact ar_ireturn C rfl dX12_stand_71 ⟨rfl, rfl, rfl⟩
      · refine ar_iload (n := 4) C dX12_stand_43 rfl ?_
        refine ar_i2l C dX12_stand_45 ?_
        refine ar_lconst (v := 0) C dX12_stand_46 (by decide) ?_
        refine ar_ldc2 C kcX12_98 dX12_stand_47 ?_
        refine cS1 (ar := [.long w.toInt64, .long 0, .long 1000]) (st := []) C lkX12_69 (k_inI (wi M 96 0 0) w 0 1000 _ _ (by decide) (by decide)) (by decide) rfl (Nat.le_of_ble_eq_true rfl) rfl dX12_stand_50 ?_
        refine ar_if_eqB (tgt := 69) C dX12_stand_53 (by decide) (fun c_4 => ?_) (fun c_4 => ?_)
        · refine ar_ldc C kcX12_79 dX12_stand_69 ?_
          exact ar_ireturn C rfl dX12_stand_71 ⟨rfl, rfl, rfl⟩
        · refine ar_iload (n := 5) C dX12_stand_56 rfl ?_
          refine ar_i2l C dX12_stand_58 ?_
          refine ar_lconst (v := 1) C dX12_stand_59 (by decide) ?_
          refine ar_ldc2 C kcX12_98 dX12_stand_60 ?_
          refine cS1 (ar := [.long d.toInt64, .long 1, .long 1000]) (st := []) C lkX12_69 (k_inI (wi M 96 0 0) d 1 1000 _ _ (by decide) (by decide)) (by decide) rfl (Nat.le_of_ble_eq_true rfl) rfl dX12_stand_63 ?_
          refine ar_if_neB (tgt := 72) C dX12_stand_66 (by decide) (fun c_5 => ?_) (fun c_5 => ?_)
          · exact absurd hbad (by first | (rw [c_1]; decide) | simp [*])
          · refine ar_ldc C kcX12_79 dX12_stand_69 ?_
            exact ar_ireturn C rfl dX12_stand_71 ⟨rfl, rfl, rfl⟩
set_option maxHeartbeats 4000000 in
set_option maxRecDepth 100000 in
theorem m_stand_ok (M : Mm) {i : Nat} (hi : i < 2) (u v w d : Int32) (h1 : f_in u (-1000) 1000 = true) (h2 : f_in v (-1000) 1000 = true) (h3 : f_in w 0 1000 = true) (h4 : f_in d 1 1000 = true) : AX mX12_stand 3 [.ref 96, .int (nI i), .int u, .int v, .int w, .int d] M (some (.int 1)) (wi (wi (wi (wi (wi M 96 0 0) 111 (4 * i) u) 111 (4 * i + 1) v) 111 (4 * i + 2) w) 111 (4 * i + 3) d) := by
  refine AM_ofF (by decide +kernel) (Nat.le_of_ble_eq_true rfl) (fun X V C _ _ => ?_)
  show AW X V mX12_stand.2.2.1 T0 M 0 0 _ 0 [(0, .ref 96), (1, .int (nI i)), (2, .int u), (3, .int v), (4, .int w), (5, .int d)] []
  refine ar_aload_n (n := 0) C dX12_stand_0 rfl rfl ?_
  refine ar_iconst (v := 0) C dX12_stand_1 (by decide) ?_
  refine ar_puti C flX12_59 kd_96 dX12_stand_2 ?_
  refine ar_iload_n (n := 1) C dX12_stand_5 rfl rfl ?_
  refine ar_i2l C dX12_stand_6 ?_
  refine ar_lconst (v := 0) C dX12_stand_7 (by decide) ?_
  refine ar_lconst (v := 1) C dX12_stand_8 (by decide) ?_
  refine cS1 (ar := [.long ((nI i).toInt64), .long 0, .long 1]) (st := []) C lkX12_69 (k_inI (wi M 96 0 0) (nI i) 0 1 _ _ (by decide) (by decide)) (by decide) rfl (Nat.le_of_ble_eq_true rfl) rfl dX12_stand_9 ?_
  refine ar_if_eqB (tgt := 69) C dX12_stand_12 (by decide) (fun c_1 => False.elim (Bool.noConfusion ((f_in_nI (n := 1) (by decide) (by omega) (by decide)).symm.trans c_1))) (fun _ => ?_)
  refine ar_iload_n (n := 2) C dX12_stand_15 rfl rfl ?_
  refine ar_i2l C dX12_stand_16 ?_
  refine ar_ldc2 C kcX12_96 dX12_stand_17 ?_
  refine ar_ldc2 C kcX12_98 dX12_stand_20 ?_
  refine cS1 (ar := [.long u.toInt64, .long (-1000), .long 1000]) (st := []) C lkX12_69 (k_inI (wi M 96 0 0) u (-1000) 1000 _ _ (by decide) (by decide)) (by decide) rfl (Nat.le_of_ble_eq_true rfl) rfl dX12_stand_23 ?_
  refine ar_if_eqB (tgt := 69) C dX12_stand_26 (by decide) (fun c_2 => False.elim (Bool.noConfusion (h1.symm.trans c_2))) (fun _ => ?_)
  refine ar_iload_n (n := 3) C dX12_stand_29 rfl rfl ?_
  refine ar_i2l C dX12_stand_30 ?_
  refine ar_ldc2 C kcX12_96 dX12_stand_31 ?_
  refine ar_ldc2 C kcX12_98 dX12_stand_34 ?_
  refine cS1 (ar := [.long v.toInt64, .long (-1000), .long 1000]) (st := []) C lkX12_69 (k_inI (wi M 96 0 0) v (-1000) 1000 _ _ (by decide) (by decide)) (by decide) rfl (Nat.le_of_ble_eq_true rfl) rfl dX12_stand_37 ?_
  refine ar_if_eqB (tgt := 69) C dX12_stand_40 (by decide) (fun c_3 => False.elim (Bool.noConfusion (h2.symm.trans c_3))) (fun _ => ?_)
  refine ar_iload (n := 4) C dX12_stand_43 rfl ?_
  refine ar_i2l C dX12_stand_45 ?_
  refine ar_lconst (v := 0) C dX12_stand_46 (by decide) ?_
  refine ar_ldc2 C kcX12_98 dX12_stand_47 ?_
  refine cS1 (ar := [.long w.toInt64, .long 0, .long 1000]) (st := []) C lkX12_69 (k_inI (wi M 96 0 0) w 0 1000 _ _ (by decide) (by decide)) (by decide) rfl (Nat.le_of_ble_eq_true rfl) rfl dX12_stand_50 ?_
  refine ar_if_eqB (tgt := 69) C dX12_stand_53 (by decide) (fun c_4 => False.elim (Bool.noConfusion (h3.symm.trans c_4))) (fun _ => ?_)
  refine ar_iload (n := 5) C dX12_stand_56 rfl ?_
  refine ar_i2l C dX12_stand_58 ?_
  refine ar_lconst (v := 1) C dX12_stand_59 (by decide) ?_
  refine ar_ldc2 C kcX12_98 dX12_stand_60 ?_
  refine cS1 (ar := [.long d.toInt64, .long 1, .long 1000]) (st := []) C lkX12_69 (k_inI (wi M 96 0 0) d 1 1000 _ _ (by decide) (by decide)) (by decide) rfl (Nat.le_of_ble_eq_true rfl) rfl dX12_stand_63 ?_
  refine ar_if_neB (tgt := 72) C dX12_stand_66 (by decide) (fun _ => ?_) (fun c_5 => False.elim (Bool.noConfusion (h4.symm.trans c_5)))
  refine ar_aload_n (n := 0) C dX12_stand_72 rfl rfl ?_
  refine ar_getr C flX12_53 rfl kd_96 rf_96_22 dX12_stand_73 ?_
  refine ar_iconst (v := 4) C dX12_stand_76 (by decide) ?_
  refine ar_iload_n (n := 1) C dX12_stand_77 rfl rfl ?_
  refine ar_imul C dX12_stand_78 ?_
  refine ar_iload_n (n := 2) C dX12_stand_79 rfl rfl ?_
  refine ar_iast (j := 4 * i) C kd_111 (pk_mul 4 i) (by omega) dX12_stand_80 ?_
  refine ar_aload_n (n := 0) C dX12_stand_81 rfl rfl ?_
  refine ar_getr C flX12_53 rfl kd_96 rf_96_22 dX12_stand_82 ?_
  refine ar_iconst (v := 4) C dX12_stand_85 (by decide) ?_
  refine ar_iload_n (n := 1) C dX12_stand_86 rfl rfl ?_
  refine ar_imul C dX12_stand_87 ?_
  refine ar_iconst (v := 1) C dX12_stand_88 (by decide) ?_
  refine ar_iadd C dX12_stand_89 ?_
  refine ar_iload_n (n := 3) C dX12_stand_90 rfl rfl ?_
  refine ar_iast (j := 4 * i + 1) C kd_111 (by rw [show (4 : Int32) * nI i = nI (4 * i) from pk_mul 4 i]; exact nI_add _ 1) (by omega) dX12_stand_91 ?_
  refine ar_aload_n (n := 0) C dX12_stand_92 rfl rfl ?_
  refine ar_getr C flX12_53 rfl kd_96 rf_96_22 dX12_stand_93 ?_
  refine ar_iconst (v := 4) C dX12_stand_96 (by decide) ?_
  refine ar_iload_n (n := 1) C dX12_stand_97 rfl rfl ?_
  refine ar_imul C dX12_stand_98 ?_
  refine ar_iconst (v := 2) C dX12_stand_99 (by decide) ?_
  refine ar_iadd C dX12_stand_100 ?_
  refine ar_iload (n := 4) C dX12_stand_101 rfl ?_
  refine ar_iast (j := 4 * i + 2) C kd_111 (by rw [show (4 : Int32) * nI i = nI (4 * i) from pk_mul 4 i]; exact nI_add _ 2) (by omega) dX12_stand_103 ?_
  refine ar_aload_n (n := 0) C dX12_stand_104 rfl rfl ?_
  refine ar_getr C flX12_53 rfl kd_96 rf_96_22 dX12_stand_105 ?_
  refine ar_iconst (v := 4) C dX12_stand_108 (by decide) ?_
  refine ar_iload_n (n := 1) C dX12_stand_109 rfl rfl ?_
  refine ar_imul C dX12_stand_110 ?_
  refine ar_iconst (v := 3) C dX12_stand_111 (by decide) ?_
  refine ar_iadd C dX12_stand_112 ?_
  refine ar_iload (n := 5) C dX12_stand_113 rfl ?_
  refine ar_iast (j := 4 * i + 3) C kd_111 (by rw [show (4 : Int32) * nI i = nI (4 * i) from pk_mul 4 i]; exact nI_add _ 3) (by omega) dX12_stand_115 ?_
  refine ar_iconst (v := 1) C dX12_stand_116 (by decide) ?_
  exact ar_ireturn C rfl dX12_stand_117 ⟨rfl, rfl, rfl⟩
set_option maxHeartbeats 4000000 in
set_option maxRecDepth 100000 in
theorem m_spotOf_0 (M : Mm) {d : Nat} (hd : d < 365) (hour h : Int32) : AX mX12_spotOf 0 [.int (nI d), .int hour, .int h, .int 0] M (some (.int (f_aside hour h))) M := by
  refine AM_ofF (by decide +kernel) (Nat.le_of_ble_eq_true rfl) (fun X V C _ _ => ?_)
  show AW X V mX12_spotOf.2.2.1 T0 M 0 0 _ 0 [(0, .int (nI d)), (1, .int hour), (2, .int h), (3, .int 0)] []
  refine ar_iload_n (n := 0) C dX12_spotOf_0 rfl rfl ?_
  refine ar_sipush (v := 172) C dX12_spotOf_1 (by decide) ?_
  refine ar_icmp_le (tgt := 15) C dX12_spotOf_4 (by decide) (fun c_1 => ?_) (fun c_1 => ?_)
  · refine ar_sipush (v := 172) C dX12_spotOf_15 (by decide) ?_
    refine ar_iload_n (n := 0) C dX12_spotOf_18 rfl rfl ?_
    refine ar_isub C dX12_spotOf_19 ?_
    refine ar_istore (als' := [(4, .int (172 - (nI d))), (0, .int (nI d)), (1, .int hour), (2, .int h), (3, .int 0)]) C dX12_spotOf_20 (by decide) rfl ?_
    refine ar_iload (n := 0) C dX12_spotOf_22 rfl ?_
    refine ar_sipush (v := 182) C dX12_spotOf_24 (by decide) ?_
    refine ar_icmp_le (tgt := 39) C dX12_spotOf_27 (by decide) (fun c_2 => ?_) (fun c_2 => ?_)
    · refine ar_iload (n := 0) C dX12_spotOf_39 rfl ?_
      refine ar_topi (f_min (f_abs (nI d - 172)) (365 - f_abs (nI d - 172))) (by have q := sp_all d hd; simp only [c_1, c_2, if_true, if_false] at q; exact q) ?_
      refine ar_istore (als' := [(4, .int (f_min (f_abs (nI d - 172)) (365 - f_abs (nI d - 172)))), (0, .int (nI d)), (1, .int hour), (2, .int h), (3, .int 0)]) C dX12_spotOf_41 (by decide) rfl ?_
      refine ar_iload_n (n := 4) C dX12_spotOf_43 rfl rfl ?_
      refine ar_if_ne (tgt := 61) C dX12_spotOf_44 (by decide) (fun c_3 => absurd c_3 (by decide)) (fun _ => ?_)
      refine ar_iload_n (n := 3) C dX12_spotOf_47 rfl rfl ?_
      refine ar_iload_n (n := 2) C dX12_spotOf_48 rfl rfl ?_
      refine ar_imul C dX12_spotOf_49 ?_
      refine ar_sipush (v := 200) C dX12_spotOf_50 (by decide) ?_
      refine ar_imul C dX12_spotOf_53 ?_
      refine ar_sipush (v := 1000) C dX12_spotOf_54 (by decide) ?_
      refine ar_idiv C dX12_spotOf_57 (by decide) ?_
      refine ar_goto (tgt := 88) C dX12_spotOf_58 (by decide) ?_
      exact ar_ireturn C rfl dX12_spotOf_88 ⟨rfl, rfl, rfl⟩
    · refine ar_sipush (v := 365) C dX12_spotOf_30 (by decide) ?_
      refine ar_iload (n := 0) C dX12_spotOf_33 rfl ?_
      refine ar_isub C dX12_spotOf_35 ?_
      refine ar_goto (tgt := 41) C dX12_spotOf_36 (by decide) ?_
      refine ar_topi (f_min (f_abs (nI d - 172)) (365 - f_abs (nI d - 172))) (by have q := sp_all d hd; simp only [c_1, c_2, if_true, if_false] at q; exact q) ?_
      refine ar_istore (als' := [(4, .int (f_min (f_abs (nI d - 172)) (365 - f_abs (nI d - 172)))), (0, .int (nI d)), (1, .int hour), (2, .int h), (3, .int 0)]) C dX12_spotOf_41 (by decide) rfl ?_
      refine ar_iload_n (n := 4) C dX12_spotOf_43 rfl rfl ?_
      refine ar_if_ne (tgt := 61) C dX12_spotOf_44 (by decide) (fun c_4 => absurd c_4 (by decide)) (fun _ => ?_)
      refine ar_iload_n (n := 3) C dX12_spotOf_47 rfl rfl ?_
      refine ar_iload_n (n := 2) C dX12_spotOf_48 rfl rfl ?_
      refine ar_imul C dX12_spotOf_49 ?_
      refine ar_sipush (v := 200) C dX12_spotOf_50 (by decide) ?_
      refine ar_imul C dX12_spotOf_53 ?_
      refine ar_sipush (v := 1000) C dX12_spotOf_54 (by decide) ?_
      refine ar_idiv C dX12_spotOf_57 (by decide) ?_
      refine ar_goto (tgt := 88) C dX12_spotOf_58 (by decide) ?_
      exact ar_ireturn C rfl dX12_spotOf_88 ⟨rfl, rfl, rfl⟩
  · refine ar_iload_n (n := 0) C dX12_spotOf_7 rfl rfl ?_
    refine ar_sipush (v := 172) C dX12_spotOf_8 (by decide) ?_
    refine ar_isub C dX12_spotOf_11 ?_
    refine ar_goto (tgt := 20) C dX12_spotOf_12 (by decide) ?_
    refine ar_istore (als' := [(4, .int ((nI d) - 172)), (0, .int (nI d)), (1, .int hour), (2, .int h), (3, .int 0)]) C dX12_spotOf_20 (by decide) rfl ?_
    refine ar_iload (n := 0) C dX12_spotOf_22 rfl ?_
    refine ar_sipush (v := 182) C dX12_spotOf_24 (by decide) ?_
    refine ar_icmp_le (tgt := 39) C dX12_spotOf_27 (by decide) (fun c_5 => ?_) (fun c_5 => ?_)
    · refine ar_iload (n := 0) C dX12_spotOf_39 rfl ?_
      refine ar_topi (f_min (f_abs (nI d - 172)) (365 - f_abs (nI d - 172))) (by have q := sp_all d hd; simp only [c_1, c_5, if_true, if_false] at q; exact q) ?_
      refine ar_istore (als' := [(4, .int (f_min (f_abs (nI d - 172)) (365 - f_abs (nI d - 172)))), (0, .int (nI d)), (1, .int hour), (2, .int h), (3, .int 0)]) C dX12_spotOf_41 (by decide) rfl ?_
      refine ar_iload_n (n := 4) C dX12_spotOf_43 rfl rfl ?_
      refine ar_if_ne (tgt := 61) C dX12_spotOf_44 (by decide) (fun c_6 => absurd c_6 (by decide)) (fun _ => ?_)
      refine ar_iload_n (n := 3) C dX12_spotOf_47 rfl rfl ?_
      refine ar_iload_n (n := 2) C dX12_spotOf_48 rfl rfl ?_
      refine ar_imul C dX12_spotOf_49 ?_
      refine ar_sipush (v := 200) C dX12_spotOf_50 (by decide) ?_
      refine ar_imul C dX12_spotOf_53 ?_
      refine ar_sipush (v := 1000) C dX12_spotOf_54 (by decide) ?_
      refine ar_idiv C dX12_spotOf_57 (by decide) ?_
      refine ar_goto (tgt := 88) C dX12_spotOf_58 (by decide) ?_
      exact ar_ireturn C rfl dX12_spotOf_88 ⟨rfl, rfl, rfl⟩
    · refine ar_sipush (v := 365) C dX12_spotOf_30 (by decide) ?_
      refine ar_iload (n := 0) C dX12_spotOf_33 rfl ?_
      refine ar_isub C dX12_spotOf_35 ?_
      refine ar_goto (tgt := 41) C dX12_spotOf_36 (by decide) ?_
      refine ar_topi (f_min (f_abs (nI d - 172)) (365 - f_abs (nI d - 172))) (by have q := sp_all d hd; simp only [c_1, c_5, if_true, if_false] at q; exact q) ?_
      refine ar_istore (als' := [(4, .int (f_min (f_abs (nI d - 172)) (365 - f_abs (nI d - 172)))), (0, .int (nI d)), (1, .int hour), (2, .int h), (3, .int 0)]) C dX12_spotOf_41 (by decide) rfl ?_
      refine ar_iload_n (n := 4) C dX12_spotOf_43 rfl rfl ?_
      refine ar_if_ne (tgt := 61) C dX12_spotOf_44 (by decide) (fun c_7 => absurd c_7 (by decide)) (fun _ => ?_)
      refine ar_iload_n (n := 3) C dX12_spotOf_47 rfl rfl ?_
      refine ar_iload_n (n := 2) C dX12_spotOf_48 rfl rfl ?_
      refine ar_imul C dX12_spotOf_49 ?_
      refine ar_sipush (v := 200) C dX12_spotOf_50 (by decide) ?_
      refine ar_imul C dX12_spotOf_53 ?_
      refine ar_sipush (v := 1000) C dX12_spotOf_54 (by decide) ?_
      refine ar_idiv C dX12_spotOf_57 (by decide) ?_
      refine ar_goto (tgt := 88) C dX12_spotOf_58 (by decide) ?_
      exact ar_ireturn C rfl dX12_spotOf_88 ⟨rfl, rfl, rfl⟩
set_option maxHeartbeats 4000000 in
set_option maxRecDepth 100000 in
theorem m_spotOf_1 (M : Mm) {d : Nat} (hd : d < 365) (hour h : Int32) : AX mX12_spotOf 0 [.int (nI d), .int hour, .int h, .int 1] M (some (.int (f_ahead (f_noon (nI d)) hour h))) M := by
  refine AM_ofF (by decide +kernel) (Nat.le_of_ble_eq_true rfl) (fun X V C _ _ => ?_)
  show AW X V mX12_spotOf.2.2.1 T0 M 0 0 _ 0 [(0, .int (nI d)), (1, .int hour), (2, .int h), (3, .int 1)] []
  refine ar_iload_n (n := 0) C dX12_spotOf_0 rfl rfl ?_
  refine ar_sipush (v := 172) C dX12_spotOf_1 (by decide) ?_
  refine ar_icmp_le (tgt := 15) C dX12_spotOf_4 (by decide) (fun c_1 => ?_) (fun c_1 => ?_)
  · refine ar_sipush (v := 172) C dX12_spotOf_15 (by decide) ?_
    refine ar_iload_n (n := 0) C dX12_spotOf_18 rfl rfl ?_
    refine ar_isub C dX12_spotOf_19 ?_
    refine ar_istore (als' := [(4, .int (172 - (nI d))), (0, .int (nI d)), (1, .int hour), (2, .int h), (3, .int 1)]) C dX12_spotOf_20 (by decide) rfl ?_
    refine ar_iload (n := 0) C dX12_spotOf_22 rfl ?_
    refine ar_sipush (v := 182) C dX12_spotOf_24 (by decide) ?_
    refine ar_icmp_le (tgt := 39) C dX12_spotOf_27 (by decide) (fun c_2 => ?_) (fun c_2 => ?_)
    · refine ar_iload (n := 0) C dX12_spotOf_39 rfl ?_
      refine ar_topi (f_min (f_abs (nI d - 172)) (365 - f_abs (nI d - 172))) (by have q := sp_all d hd; simp only [c_1, c_2, if_true, if_false] at q; exact q) ?_
      refine ar_istore (als' := [(4, .int (f_min (f_abs (nI d - 172)) (365 - f_abs (nI d - 172)))), (0, .int (nI d)), (1, .int hour), (2, .int h), (3, .int 1)]) C dX12_spotOf_41 (by decide) rfl ?_
      refine ar_iload_n (n := 4) C dX12_spotOf_43 rfl rfl ?_
      refine ar_if_ne (tgt := 61) C dX12_spotOf_44 (by decide) (fun _ => ?_) (fun c_3 => absurd c_3 (by decide))
      refine ar_iload_n (n := 3) C dX12_spotOf_61 rfl rfl ?_
      refine ar_sipush (v := 500) C dX12_spotOf_62 (by decide) ?_
      refine ar_sipush (v := 1500) C dX12_spotOf_65 (by decide) ?_
      refine ar_iload (n := 0) C dX12_spotOf_68 rfl ?_
      refine ar_imul C dX12_spotOf_70 ?_
      refine ar_sipush (v := 182) C dX12_spotOf_71 (by decide) ?_
      refine ar_idiv C dX12_spotOf_74 (by decide) ?_
      refine ar_iadd C dX12_spotOf_75 ?_
      refine ar_bipush (v := 30) C dX12_spotOf_76 (by decide) ?_
      refine ar_iload_n (n := 2) C dX12_spotOf_78 rfl rfl ?_
      refine ar_imul C dX12_spotOf_79 ?_
      refine ar_iload_n (n := 2) C dX12_spotOf_80 rfl rfl ?_
      refine ar_imul C dX12_spotOf_81 ?_
      refine ar_iadd C dX12_spotOf_82 ?_
      refine ar_imul C dX12_spotOf_83 ?_
      refine ar_sipush (v := 1000) C dX12_spotOf_84 (by decide) ?_
      refine ar_idiv C dX12_spotOf_87 (by decide) ?_
      exact ar_ireturn C rfl dX12_spotOf_88 ⟨rfl, rfl, rfl⟩
    · refine ar_sipush (v := 365) C dX12_spotOf_30 (by decide) ?_
      refine ar_iload (n := 0) C dX12_spotOf_33 rfl ?_
      refine ar_isub C dX12_spotOf_35 ?_
      refine ar_goto (tgt := 41) C dX12_spotOf_36 (by decide) ?_
      refine ar_topi (f_min (f_abs (nI d - 172)) (365 - f_abs (nI d - 172))) (by have q := sp_all d hd; simp only [c_1, c_2, if_true, if_false] at q; exact q) ?_
      refine ar_istore (als' := [(4, .int (f_min (f_abs (nI d - 172)) (365 - f_abs (nI d - 172)))), (0, .int (nI d)), (1, .int hour), (2, .int h), (3, .int 1)]) C dX12_spotOf_41 (by decide) rfl ?_
      refine ar_iload_n (n := 4) C dX12_spotOf_43 rfl rfl ?_
      refine ar_if_ne (tgt := 61) C dX12_spotOf_44 (by decide) (fun _ => ?_) (fun c_4 => absurd c_4 (by decide))
      refine ar_iload_n (n := 3) C dX12_spotOf_61 rfl rfl ?_
      refine ar_sipush (v := 500) C dX12_spotOf_62 (by decide) ?_
      refine ar_sipush (v := 1500) C dX12_spotOf_65 (by decide) ?_
      refine ar_iload (n := 0) C dX12_spotOf_68 rfl ?_
      refine ar_imul C dX12_spotOf_70 ?_
      refine ar_sipush (v := 182) C dX12_spotOf_71 (by decide) ?_
      refine ar_idiv C dX12_spotOf_74 (by decide) ?_
      refine ar_iadd C dX12_spotOf_75 ?_
      refine ar_bipush (v := 30) C dX12_spotOf_76 (by decide) ?_
      refine ar_iload_n (n := 2) C dX12_spotOf_78 rfl rfl ?_
      refine ar_imul C dX12_spotOf_79 ?_
      refine ar_iload_n (n := 2) C dX12_spotOf_80 rfl rfl ?_
      refine ar_imul C dX12_spotOf_81 ?_
      refine ar_iadd C dX12_spotOf_82 ?_
      refine ar_imul C dX12_spotOf_83 ?_
      refine ar_sipush (v := 1000) C dX12_spotOf_84 (by decide) ?_
      refine ar_idiv C dX12_spotOf_87 (by decide) ?_
      exact ar_ireturn C rfl dX12_spotOf_88 ⟨rfl, rfl, rfl⟩
  · refine ar_iload_n (n := 0) C dX12_spotOf_7 rfl rfl ?_
    refine ar_sipush (v := 172) C dX12_spotOf_8 (by decide) ?_
    refine ar_isub C dX12_spotOf_11 ?_
    refine ar_goto (tgt := 20) C dX12_spotOf_12 (by decide) ?_
    refine ar_istore (als' := [(4, .int ((nI d) - 172)), (0, .int (nI d)), (1, .int hour), (2, .int h), (3, .int 1)]) C dX12_spotOf_20 (by decide) rfl ?_
    refine ar_iload (n := 0) C dX12_spotOf_22 rfl ?_
    refine ar_sipush (v := 182) C dX12_spotOf_24 (by decide) ?_
    refine ar_icmp_le (tgt := 39) C dX12_spotOf_27 (by decide) (fun c_5 => ?_) (fun c_5 => ?_)
    · refine ar_iload (n := 0) C dX12_spotOf_39 rfl ?_
      refine ar_topi (f_min (f_abs (nI d - 172)) (365 - f_abs (nI d - 172))) (by have q := sp_all d hd; simp only [c_1, c_5, if_true, if_false] at q; exact q) ?_
      refine ar_istore (als' := [(4, .int (f_min (f_abs (nI d - 172)) (365 - f_abs (nI d - 172)))), (0, .int (nI d)), (1, .int hour), (2, .int h), (3, .int 1)]) C dX12_spotOf_41 (by decide) rfl ?_
      refine ar_iload_n (n := 4) C dX12_spotOf_43 rfl rfl ?_
      refine ar_if_ne (tgt := 61) C dX12_spotOf_44 (by decide) (fun _ => ?_) (fun c_6 => absurd c_6 (by decide))
      refine ar_iload_n (n := 3) C dX12_spotOf_61 rfl rfl ?_
      refine ar_sipush (v := 500) C dX12_spotOf_62 (by decide) ?_
      refine ar_sipush (v := 1500) C dX12_spotOf_65 (by decide) ?_
      refine ar_iload (n := 0) C dX12_spotOf_68 rfl ?_
      refine ar_imul C dX12_spotOf_70 ?_
      refine ar_sipush (v := 182) C dX12_spotOf_71 (by decide) ?_
      refine ar_idiv C dX12_spotOf_74 (by decide) ?_
      refine ar_iadd C dX12_spotOf_75 ?_
      refine ar_bipush (v := 30) C dX12_spotOf_76 (by decide) ?_
      refine ar_iload_n (n := 2) C dX12_spotOf_78 rfl rfl ?_
      refine ar_imul C dX12_spotOf_79 ?_
      refine ar_iload_n (n := 2) C dX12_spotOf_80 rfl rfl ?_
      refine ar_imul C dX12_spotOf_81 ?_
      refine ar_iadd C dX12_spotOf_82 ?_
      refine ar_imul C dX12_spotOf_83 ?_
      refine ar_sipush (v := 1000) C dX12_spotOf_84 (by decide) ?_
      refine ar_idiv C dX12_spotOf_87 (by decide) ?_
      exact ar_ireturn C rfl dX12_spotOf_88 ⟨rfl, rfl, rfl⟩
    · refine ar_sipush (v := 365) C dX12_spotOf_30 (by decide) ?_
      refine ar_iload (n := 0) C dX12_spotOf_33 rfl ?_
      refine ar_isub C dX12_spotOf_35 ?_
      refine ar_goto (tgt := 41) C dX12_spotOf_36 (by decide) ?_
      refine ar_topi (f_min (f_abs (nI d - 172)) (365 - f_abs (nI d - 172))) (by have q := sp_all d hd; simp only [c_1, c_5, if_true, if_false] at q; exact q) ?_
      refine ar_istore (als' := [(4, .int (f_min (f_abs (nI d - 172)) (365 - f_abs (nI d - 172)))), (0, .int (nI d)), (1, .int hour), (2, .int h), (3, .int 1)]) C dX12_spotOf_41 (by decide) rfl ?_
      refine ar_iload_n (n := 4) C dX12_spotOf_43 rfl rfl ?_
      refine ar_if_ne (tgt := 61) C dX12_spotOf_44 (by decide) (fun _ => ?_) (fun c_7 => absurd c_7 (by decide))
      refine ar_iload_n (n := 3) C dX12_spotOf_61 rfl rfl ?_
      refine ar_sipush (v := 500) C dX12_spotOf_62 (by decide) ?_
      refine ar_sipush (v := 1500) C dX12_spotOf_65 (by decide) ?_
      refine ar_iload (n := 0) C dX12_spotOf_68 rfl ?_
      refine ar_imul C dX12_spotOf_70 ?_
      refine ar_sipush (v := 182) C dX12_spotOf_71 (by decide) ?_
      refine ar_idiv C dX12_spotOf_74 (by decide) ?_
      refine ar_iadd C dX12_spotOf_75 ?_
      refine ar_bipush (v := 30) C dX12_spotOf_76 (by decide) ?_
      refine ar_iload_n (n := 2) C dX12_spotOf_78 rfl rfl ?_
      refine ar_imul C dX12_spotOf_79 ?_
      refine ar_iload_n (n := 2) C dX12_spotOf_80 rfl rfl ?_
      refine ar_imul C dX12_spotOf_81 ?_
      refine ar_iadd C dX12_spotOf_82 ?_
      refine ar_imul C dX12_spotOf_83 ?_
      refine ar_sipush (v := 1000) C dX12_spotOf_84 (by decide) ?_
      refine ar_idiv C dX12_spotOf_87 (by decide) ?_
      exact ar_ireturn C rfl dX12_spotOf_88 ⟨rfl, rfl, rfl⟩
set_option maxHeartbeats 4000000 in
set_option maxRecDepth 100000 in
theorem m_spot_bad (M : Mm) (day hour h w : Int32)  (hbad : (f_in day 0 364 && f_in hour (-6) 6 && f_in h 1 1000 && f_in w 0 1) = false) : AX mX12_spot 2 [.ref 96, .int day, .int hour, .int h, .int w] M (some (.int (-1000001))) (wi M 96 0 0) := by
  refine AM_ofF (by decide +kernel) (Nat.le_of_ble_eq_true rfl) (fun X V C _ _ => ?_)
  show AW X V mX12_spot.2.2.1 T0 M 0 0 _ 0 [(0, .ref 96), (1, .int day), (2, .int hour), (3, .int h), (4, .int w)] []
  refine ar_aload_n (n := 0) C dX12_spot_0 rfl rfl ?_
  refine ar_iconst (v := 0) C dX12_spot_1 (by decide) ?_
  refine ar_puti C flX12_59 kd_96 dX12_spot_2 ?_
  refine ar_iload_n (n := 1) C dX12_spot_5 rfl rfl ?_
  refine ar_i2l C dX12_spot_6 ?_
  refine ar_lconst (v := 0) C dX12_spot_7 (by decide) ?_
  refine ar_ldc2 C kcX12_220 dX12_spot_8 ?_
  refine cS1 (ar := [.long day.toInt64, .long 0, .long 364]) (st := []) C lkX12_69 (k_inI (wi M 96 0 0) day 0 364 _ _ (by decide) (by decide)) (by decide) rfl (Nat.le_of_ble_eq_true rfl) rfl dX12_spot_11 ?_
  refine ar_if_eqB (tgt := 54) C dX12_spot_14 (by decide) (fun c_1 => ?_) (fun c_1 => ?_)
  · refine ar_ldc C kcX12_79 dX12_spot_54 ?_
    refine ar_goto (tgt := 67) C dX12_spot_56 (by decide) ?_
    exact ar_ireturn C rfl dX12_spot_67 ⟨rfl, rfl, rfl⟩
  · refine ar_iload_n (n := 2) C dX12_spot_17 rfl rfl ?_
    refine ar_i2l C dX12_spot_18 ?_
    refine ar_ldc2 C kcX12_222 dX12_spot_19 ?_
    refine ar_ldc2 C kcX12_84 dX12_spot_22 ?_
    refine cS1 (ar := [.long hour.toInt64, .long (-6), .long 6]) (st := []) C lkX12_69 (k_inI (wi M 96 0 0) hour (-6) 6 _ _ (by decide) (by decide)) (by decide) rfl (Nat.le_of_ble_eq_true rfl) rfl dX12_spot_25 ?_
    refine ar_if_eqB (tgt := 54) C dX12_spot_28 (by decide) (fun c_2 => ?_) (fun c_2 => ?_)
    · refine ar_ldc C kcX12_79 dX12_spot_54 ?_
      refine ar_goto (tgt := 67) C dX12_spot_56 (by decide) ?_
      exact ar_ireturn C rfl dX12_spot_67 ⟨rfl, rfl, rfl⟩
    · refine ar_iload_n (n := 3) C dX12_spot_31 rfl rfl ?_
      refine ar_i2l C dX12_spot_32 ?_
      refine ar_lconst (v := 1) C dX12_spot_33 (by decide) ?_
      refine ar_ldc2 C kcX12_98 dX12_spot_34 ?_
      refine cS1 (ar := [.long h.toInt64, .long 1, .long 1000]) (st := []) C lkX12_69 (k_inI (wi M 96 0 0) h 1 1000 _ _ (by decide) (by decide)) (by decide) rfl (Nat.le_of_ble_eq_true rfl) rfl dX12_spot_37 ?_
      refine ar_if_eqB (tgt := 54) C dX12_spot_40 (by decide) (fun c_3 => ?_) (fun c_3 => ?_)
      · refine ar_ldc C kcX12_79 dX12_spot_54 ?_
        refine ar_goto (tgt := 67) C dX12_spot_56 (by decide) ?_
        exact ar_ireturn C rfl dX12_spot_67 ⟨rfl, rfl, rfl⟩
      · refine ar_iload (n := 4) C dX12_spot_43 rfl ?_
        refine ar_i2l C dX12_spot_45 ?_
        refine ar_lconst (v := 0) C dX12_spot_46 (by decide) ?_
        refine ar_lconst (v := 1) C dX12_spot_47 (by decide) ?_
        refine cS1 (ar := [.long w.toInt64, .long 0, .long 1]) (st := []) C lkX12_69 (k_inI (wi M 96 0 0) w 0 1 _ _ (by decide) (by decide)) (by decide) rfl (Nat.le_of_ble_eq_true rfl) rfl dX12_spot_48 ?_
        refine ar_if_neB (tgt := 59) C dX12_spot_51 (by decide) (fun c_4 => ?_) (fun c_4 => ?_)
        · exact absurd hbad (by first | (rw [c_1]; decide) | simp [*])
        · refine ar_ldc C kcX12_79 dX12_spot_54 ?_
          refine ar_goto (tgt := 67) C dX12_spot_56 (by decide) ?_
          exact ar_ireturn C rfl dX12_spot_67 ⟨rfl, rfl, rfl⟩
set_option maxHeartbeats 4000000 in
set_option maxRecDepth 100000 in
theorem m_spot_0 (M : Mm) {d : Nat} (hd : d < 365) (hour h : Int32) (h2 : f_in hour (-6) 6 = true) (h3 : f_in h 1 1000 = true) : AX mX12_spot 2 [.ref 96, .int (nI d), .int hour, .int h, .int 0] M (some (.int (f_aside hour h))) (wi M 96 0 0) := by
  refine AM_ofF (by decide +kernel) (Nat.le_of_ble_eq_true rfl) (fun X V C _ _ => ?_)
  show AW X V mX12_spot.2.2.1 T0 M 0 0 _ 0 [(0, .ref 96), (1, .int (nI d)), (2, .int hour), (3, .int h), (4, .int 0)] []
  refine ar_aload_n (n := 0) C dX12_spot_0 rfl rfl ?_
  refine ar_iconst (v := 0) C dX12_spot_1 (by decide) ?_
  refine ar_puti C flX12_59 kd_96 dX12_spot_2 ?_
  refine ar_iload_n (n := 1) C dX12_spot_5 rfl rfl ?_
  refine ar_i2l C dX12_spot_6 ?_
  refine ar_lconst (v := 0) C dX12_spot_7 (by decide) ?_
  refine ar_ldc2 C kcX12_220 dX12_spot_8 ?_
  refine cS1 (ar := [.long ((nI d).toInt64), .long 0, .long 364]) (st := []) C lkX12_69 (k_inI (wi M 96 0 0) (nI d) 0 364 _ _ (by decide) (by decide)) (by decide) rfl (Nat.le_of_ble_eq_true rfl) rfl dX12_spot_11 ?_
  refine ar_if_eqB (tgt := 54) C dX12_spot_14 (by decide) (fun c_1 => False.elim (Bool.noConfusion ((f_in_nI (n := 364) (by decide) (by omega) (by decide)).symm.trans c_1))) (fun _ => ?_)
  refine ar_iload_n (n := 2) C dX12_spot_17 rfl rfl ?_
  refine ar_i2l C dX12_spot_18 ?_
  refine ar_ldc2 C kcX12_222 dX12_spot_19 ?_
  refine ar_ldc2 C kcX12_84 dX12_spot_22 ?_
  refine cS1 (ar := [.long hour.toInt64, .long (-6), .long 6]) (st := []) C lkX12_69 (k_inI (wi M 96 0 0) hour (-6) 6 _ _ (by decide) (by decide)) (by decide) rfl (Nat.le_of_ble_eq_true rfl) rfl dX12_spot_25 ?_
  refine ar_if_eqB (tgt := 54) C dX12_spot_28 (by decide) (fun c_2 => False.elim (Bool.noConfusion (h2.symm.trans c_2))) (fun _ => ?_)
  refine ar_iload_n (n := 3) C dX12_spot_31 rfl rfl ?_
  refine ar_i2l C dX12_spot_32 ?_
  refine ar_lconst (v := 1) C dX12_spot_33 (by decide) ?_
  refine ar_ldc2 C kcX12_98 dX12_spot_34 ?_
  refine cS1 (ar := [.long h.toInt64, .long 1, .long 1000]) (st := []) C lkX12_69 (k_inI (wi M 96 0 0) h 1 1000 _ _ (by decide) (by decide)) (by decide) rfl (Nat.le_of_ble_eq_true rfl) rfl dX12_spot_37 ?_
  refine ar_if_eqB (tgt := 54) C dX12_spot_40 (by decide) (fun c_3 => False.elim (Bool.noConfusion (h3.symm.trans c_3))) (fun _ => ?_)
  refine ar_iload (n := 4) C dX12_spot_43 rfl ?_
  refine ar_i2l C dX12_spot_45 ?_
  refine ar_lconst (v := 0) C dX12_spot_46 (by decide) ?_
  refine ar_lconst (v := 1) C dX12_spot_47 (by decide) ?_
  refine cS1 (ar := [.long ((0 : Int32).toInt64), .long 0, .long 1]) (st := []) C lkX12_69 (k_inI (wi M 96 0 0) 0 0 1 _ _ (by decide) (by decide)) (by decide) rfl (Nat.le_of_ble_eq_true rfl) rfl dX12_spot_48 ?_
  refine ar_if_neB (tgt := 59) C dX12_spot_51 (by decide) (fun _ => ?_) (fun c_4 => False.elim (Bool.noConfusion ((show f_in 0 0 1 = true by decide).symm.trans c_4)))
  refine ar_iload_n (n := 1) C dX12_spot_59 rfl rfl ?_
  refine ar_iload_n (n := 2) C dX12_spot_60 rfl rfl ?_
  refine ar_iload_n (n := 3) C dX12_spot_61 rfl rfl ?_
  refine ar_iload (n := 4) C dX12_spot_62 rfl ?_
  refine cS1 (ar := [.int (nI d), .int hour, .int h, .int 0]) (st := []) C lkX12_224 (m_spotOf_0 (wi M 96 0 0) hd hour h) (by decide) rfl (Nat.le_of_ble_eq_true rfl) rfl dX12_spot_64 ?_
  exact ar_ireturn C rfl dX12_spot_67 ⟨rfl, rfl, rfl⟩
set_option maxHeartbeats 4000000 in
set_option maxRecDepth 100000 in
theorem m_spot_1 (M : Mm) {d : Nat} (hd : d < 365) (hour h : Int32) (h2 : f_in hour (-6) 6 = true) (h3 : f_in h 1 1000 = true) : AX mX12_spot 2 [.ref 96, .int (nI d), .int hour, .int h, .int 1] M (some (.int (f_ahead (f_noon (nI d)) hour h))) (wi M 96 0 0) := by
  refine AM_ofF (by decide +kernel) (Nat.le_of_ble_eq_true rfl) (fun X V C _ _ => ?_)
  show AW X V mX12_spot.2.2.1 T0 M 0 0 _ 0 [(0, .ref 96), (1, .int (nI d)), (2, .int hour), (3, .int h), (4, .int 1)] []
  refine ar_aload_n (n := 0) C dX12_spot_0 rfl rfl ?_
  refine ar_iconst (v := 0) C dX12_spot_1 (by decide) ?_
  refine ar_puti C flX12_59 kd_96 dX12_spot_2 ?_
  refine ar_iload_n (n := 1) C dX12_spot_5 rfl rfl ?_
  refine ar_i2l C dX12_spot_6 ?_
  refine ar_lconst (v := 0) C dX12_spot_7 (by decide) ?_
  refine ar_ldc2 C kcX12_220 dX12_spot_8 ?_
  refine cS1 (ar := [.long ((nI d).toInt64), .long 0, .long 364]) (st := []) C lkX12_69 (k_inI (wi M 96 0 0) (nI d) 0 364 _ _ (by decide) (by decide)) (by decide) rfl (Nat.le_of_ble_eq_true rfl) rfl dX12_spot_11 ?_
  refine ar_if_eqB (tgt := 54) C dX12_spot_14 (by decide) (fun c_1 => False.elim (Bool.noConfusion ((f_in_nI (n := 364) (by decide) (by omega) (by decide)).symm.trans c_1))) (fun _ => ?_)
  refine ar_iload_n (n := 2) C dX12_spot_17 rfl rfl ?_
  refine ar_i2l C dX12_spot_18 ?_
  refine ar_ldc2 C kcX12_222 dX12_spot_19 ?_
  refine ar_ldc2 C kcX12_84 dX12_spot_22 ?_
  refine cS1 (ar := [.long hour.toInt64, .long (-6), .long 6]) (st := []) C lkX12_69 (k_inI (wi M 96 0 0) hour (-6) 6 _ _ (by decide) (by decide)) (by decide) rfl (Nat.le_of_ble_eq_true rfl) rfl dX12_spot_25 ?_
  refine ar_if_eqB (tgt := 54) C dX12_spot_28 (by decide) (fun c_2 => False.elim (Bool.noConfusion (h2.symm.trans c_2))) (fun _ => ?_)
  refine ar_iload_n (n := 3) C dX12_spot_31 rfl rfl ?_
  refine ar_i2l C dX12_spot_32 ?_
  refine ar_lconst (v := 1) C dX12_spot_33 (by decide) ?_
  refine ar_ldc2 C kcX12_98 dX12_spot_34 ?_
  refine cS1 (ar := [.long h.toInt64, .long 1, .long 1000]) (st := []) C lkX12_69 (k_inI (wi M 96 0 0) h 1 1000 _ _ (by decide) (by decide)) (by decide) rfl (Nat.le_of_ble_eq_true rfl) rfl dX12_spot_37 ?_
  refine ar_if_eqB (tgt := 54) C dX12_spot_40 (by decide) (fun c_3 => False.elim (Bool.noConfusion (h3.symm.trans c_3))) (fun _ => ?_)
  refine ar_iload (n := 4) C dX12_spot_43 rfl ?_
  refine ar_i2l C dX12_spot_45 ?_
  refine ar_lconst (v := 0) C dX12_spot_46 (by decide) ?_
  refine ar_lconst (v := 1) C dX12_spot_47 (by decide) ?_
  refine cS1 (ar := [.long ((1 : Int32).toInt64), .long 0, .long 1]) (st := []) C lkX12_69 (k_inI (wi M 96 0 0) 1 0 1 _ _ (by decide) (by decide)) (by decide) rfl (Nat.le_of_ble_eq_true rfl) rfl dX12_spot_48 ?_
  refine ar_if_neB (tgt := 59) C dX12_spot_51 (by decide) (fun _ => ?_) (fun c_4 => False.elim (Bool.noConfusion ((show f_in 1 0 1 = true by decide).symm.trans c_4)))
  refine ar_iload_n (n := 1) C dX12_spot_59 rfl rfl ?_
  refine ar_iload_n (n := 2) C dX12_spot_60 rfl rfl ?_
  refine ar_iload_n (n := 3) C dX12_spot_61 rfl rfl ?_
  refine ar_iload (n := 4) C dX12_spot_62 rfl ?_
  refine cS1 (ar := [.int (nI d), .int hour, .int h, .int 1]) (st := []) C lkX12_224 (m_spotOf_1 (wi M 96 0 0) hd hour h) (by decide) rfl (Nat.le_of_ble_eq_true rfl) rfl dX12_spot_64 ?_
  exact ar_ireturn C rfl dX12_spot_67 ⟨rfl, rfl, rfl⟩
