/-! LENSTABLE: copy, span -/
def wcp (M : Mm) (k0 k1 sp dp n : Nat) : Mm := wrow M k1 (va_cpy (M.1 k0) (M.1 k1) sp dp n)
theorem cp_l : Cond.methodLink RX11 129 arraycopyName ∈ wA := wA_t 345 (by decide +kernel) rfl
theorem cp_n : Cond.native arraycopyName ∈ wA := wA_t 347 (by decide +kernel) rfl
theorem cp_s : Cond.static arraycopyName ∈ wA := wA_t 346 (by decide +kernel) rfl
theorem cp_i : Cond.initialized "java/lang/System" ∈ wA := wA_t 14 (by decide +kernel) rfl
theorem cellE_wrow {V : Vx} {T : Tt} {M : Mm} {k : Nat} {f : Nat → Int32} : ∀ i, i ≠ k → cellE V T (wrow M k f) i = cellE V T M i := by
  intro i hi
  have h1 : (wrow M k f).1 i = M.1 i := by simp [wrow, hi]
  have h2 : ∀ c, fv V T (wrow M k f) i c = fv V T M i c := by intro c; funext b; simp only [fv, h1]; rfl
  simp only [cellE, h1, h2]
theorem ar_copy {X : Ctx} {V : Vx} {mb : MB} {d : Nat} {M : Mm} {cl sl : Nat} {Q : State → Prop} {pc : Nat} {als : List (Nat × Value)} (C : Cx X V mb d) (hd1 : 1 ≤ d) {idx k0 k1 n0 n1 sp dp n : Nat} (wl : Cond.methodLink mb.1.cls idx arraycopyName ∈ wA) (K0 : KD T0 k0 20 n0) (K1 : KD T0 k1 20 n1) (h1 : sp + n ≤ n0) (h2 : dp + n ≤ n1) (hd : decode mb.2.1 pc = .ok (.invokestatic idx, 3)) (kk : AW X V mb.2.2.1 T0 (wcp M k0 k1 sp dp n) cl sl Q (pc + 3) als []) : AW X V mb.2.2.1 T0 M cl sl Q pc als [.int (nI n), .int (nI dp), .ref k1, .int (nI sp), .ref k0] := by
  intro H locs ls hH hS hl
  have s0 := KD_small K0
  have s1 := KD_small K1
  have e0 := wsW_get (V := V) (M := M) K0.1
  rw [cell_i K0.2] at e0
  have e1 := wsW_get (V := V) (M := M) K1.1
  rw [cell_i K1.2] at e1
  have cs : (nI sp).toNatClampNeg = sp := nI_clamp (by omega)
  have cd : (nI dp).toNatClampNeg = dp := nI_clamp (by omega)
  have cn : (nI n).toNatClampNeg = n := nI_clamp (by omega)
  have hR := C.2.2.2.2.2.2.2.2.2
  refine va_copyi C.1 C.2.1 (by rw [C.2.2.1]; exact hl.1.symm) C.2.2.2.1 (C.2.2.2.2.1 _ wl) (C.2.2.2.2.1 _ cp_n) (C.2.2.2.2.1 _ cp_s) (C.2.2.2.2.1 _ cp_i) C.2.2.2.2.2.1.1 hH.1 (wsW_D V T0 M) hS k0 k1 0 0 e0 e1 rfl rfl rfl (nI_pos (by omega)) (nI_pos (by omega)) (nI_pos (by omega)) (by rw [cs, cn]; exact h1) (by rw [cd, cn]; exact h2) (fun _ _ => rfl) (by omega) (Nat.le_trans (show 0 + (nativeFrameWords "java/lang/System" "arraycopy" 5 + 11) ≤ 34 * 1 from by decide) (Nat.le_trans (Nat.mul_le_mul_left 34 hd1) hR.2)) hd (fun H1 locs1 hP _ hS1 => kk H1 locs1 ls (Hp0 (Hp_set K1.1 rfl ?_ cellE_wrow hP)) hS1 hl)
  rw [cell_i K1.2, cs, cd, cn]
  simp [wcp, wrow]
def off3 : Nat → Int32
  | 0 => -1
  | 1 => 0
  | _ => 1
def sgp (p e : Int32) (t : Nat) : Int64 := (p + off3 t * e).toInt64
def okP (S0 S1 : Nat → Int32) (p q e : Int32) (k : Nat) : Bool := g_ok S0 S1 (sgp p e (k / 3)) (sgp q e (k % 3))
def vP (S0 S1 : Nat → Int32) (p q e : Int32) (k : Nat) : Int64 := f_lby (g_up S0 S1 (sgp p e (k / 3)) (sgp q e (k % 3))) (g_lo S0 S1 (sgp p e (k / 3)) (sgp q e (k % 3)))
def fold (op : Int64 → Int64 → Int64) (c : Int64) (v : Nat → Int64) : Nat → Int64
  | 0 => c
  | k + 1 => op (fold op c v k) (v k)
theorem k_sightE (M M1 : Mm) (E : M1.1 = M.1) (p q : Int64) : AQ mX7_take 1 [.ref 18, .ref 94, .ref 95, .long p, .long q] M1 (some (.int (bI (g_ok (M.1 94) (M.1 95) p q)))) (fun M2 => M2.2 18 1 = g_lo (M.1 94) (M.1 95) p q ∧ M2.2 18 0 = g_up (M.1 94) (M.1 95) p q ∧ M2.1 = M.1) := by
  have k := k_sight M1 p q
  rw [E] at k
  exact AQ_wk k (fun M' h => ⟨h.1, h.2.1, h.2.2.1.trans E⟩)
set_option maxHeartbeats 4000000 in
set_option maxRecDepth 100000 in
theorem x_copy_bad (M : Mm) (a i b j n : Int32)  (hbad : (f_in a 0 7 && f_in b 0 7) = false) : AX mX11_copy 2 [.ref 0, .int a, .int i, .int b, .int j, .int n] M (some (.int (-1000001))) M := by
  refine AM_ofF (by decide +kernel) (Nat.le_of_ble_eq_true rfl) (fun X V C _ _ => ?_)
  show AW X V mX11_copy.2.2.1 T0 M 0 0 _ 0 [(0, .ref 0), (1, .int a), (2, .int i), (3, .int b), (4, .int j), (5, .int n)] []
  refine ar_iload_n (n := 1) C dX11_copy_0 rfl rfl ?_
  refine cS1 (ar := [.int a]) (st := []) C lkX11_90 (k_isSheet M a) (by decide) rfl (Nat.le_of_ble_eq_true rfl) rfl dX11_copy_1 ?_
  refine ar_if_eqB (tgt := 14) C dX11_copy_4 (by decide) (fun c_1 => ?_) (fun c_1 => ?_)
  · refine ar_ldc C kcX11_98 dX11_copy_14 ?_
    exact ar_ireturn C rfl dX11_copy_16 ⟨rfl, rfl, rfl⟩
  · refine ar_iload_n (n := 3) C dX11_copy_7 rfl rfl ?_
    refine cS1 (ar := [.int b]) (st := []) C lkX11_90 (k_isSheet M b) (by decide) rfl (Nat.le_of_ble_eq_true rfl) rfl dX11_copy_8 ?_
    refine ar_if_neB (tgt := 17) C dX11_copy_11 (by decide) (fun c_2 => ?_) (fun c_2 => ?_)
    · exact absurd hbad (by first | (rw [c_1]; decide) | simp [*])
    · refine ar_ldc C kcX11_98 dX11_copy_14 ?_
      exact ar_ireturn C rfl dX11_copy_16 ⟨rfl, rfl, rfl⟩
set_option maxHeartbeats 4000000 in
set_option maxRecDepth 100000 in
theorem x_copy_null (M : Mm) {a b : Nat} (ha : a < 8) (hb : b < 8) (i j n : Int32) (h : (decide (M.1 (22 + 2 * a) 1 = -1) || decide (M.1 (22 + 2 * b) 1 = -1)) = true) : AX mX11_copy 2 [.ref 0, .int (nI a), .int i, .int (nI b), .int j, .int n] M (some (.int (-1000011))) (wi M 0 12 1) := by
  refine AM_ofF (by decide +kernel) (Nat.le_of_ble_eq_true rfl) (fun X V C _ _ => ?_)
  show AW X V mX11_copy.2.2.1 T0 M 0 0 _ 0 [(0, .ref 0), (1, .int (nI a)), (2, .int i), (3, .int (nI b)), (4, .int j), (5, .int n)] []
  refine ar_iload_n (n := 1) C dX11_copy_0 rfl rfl ?_
  refine cS1 (ar := [.int (nI a)]) (st := []) C lkX11_90 (k_isSheet M (nI a)) (by decide) rfl (Nat.le_of_ble_eq_true rfl) rfl dX11_copy_1 ?_
  refine ar_if_eqB (tgt := 14) C dX11_copy_4 (by decide) (fun c_1 => False.elim (Bool.noConfusion ((in7 ha).symm.trans c_1))) (fun _ => ?_)
  refine ar_iload_n (n := 3) C dX11_copy_7 rfl rfl ?_
  refine cS1 (ar := [.int (nI b)]) (st := []) C lkX11_90 (k_isSheet M (nI b)) (by decide) rfl (Nat.le_of_ble_eq_true rfl) rfl dX11_copy_8 ?_
  refine ar_if_neB (tgt := 17) C dX11_copy_11 (by decide) (fun _ => ?_) (fun c_2 => False.elim (Bool.noConfusion ((in7 hb).symm.trans c_2)))
  refine ar_aload_n (n := 0) C dX11_copy_17 rfl rfl ?_
  refine ar_getr C flX11_11 rfl kd_0 rf_0_0 dX11_copy_18 ?_
  refine ar_iload_n (n := 1) C dX11_copy_21 rfl rfl ?_
  refine ar_aald (j := a) C kd_1 (by decide) (by decide) rfl ha (rf_sheets ha) dX11_copy_22 ?_
  refine ar_astore (als' := [(6, .ref (22 + 2 * a)), (0, .ref 0), (1, .int (nI a)), (2, .int i), (3, .int (nI b)), (4, .int j), (5, .int n)]) C dX11_copy_23 (by decide) rfl ?_
  refine ar_aload_n (n := 1) C dX11_copy_25 rfl rfl ?_
  refine ar_getr C flX11_11 rfl kd_0 rf_0_0 dX11_copy_26 ?_
  refine ar_iload_n (n := 4) C dX11_copy_29 rfl rfl ?_
  refine ar_aald (j := b) C kd_1 (by decide) (by decide) rfl hb (rf_sheets hb) dX11_copy_30 ?_
  refine ar_astore (als' := [(7, .ref (22 + 2 * b)), (6, .ref (22 + 2 * a)), (0, .ref 0), (1, .int (nI a)), (2, .int i), (3, .int (nI b)), (4, .int j), (5, .int n)]) C dX11_copy_31 (by decide) rfl ?_
  refine ar_aload (n := 1) C dX11_copy_33 rfl ?_
  refine cV1 (ar := []) (st := []) C lkX11_110 (kd_sheet ha) (k_isMissing M ha) (by decide) rfl (Nat.le_of_ble_eq_true rfl) rfl dX11_copy_35 ?_
  refine ar_if_neB (tgt := 49) C dX11_copy_38 (by decide) (fun c_3 => ?_) (fun c_3 => ?_)
  · refine ar_aload_n (n := 2) C dX11_copy_49 rfl rfl ?_
    refine ar_iconst (v := 1) C dX11_copy_50 (by decide) ?_
    refine cV1 (ar := [.int 1]) (st := []) C lkX11_99 kd_0 (k_found M 1) (by decide) rfl (Nat.le_of_ble_eq_true rfl) rfl dX11_copy_51 ?_
    exact ar_ireturn C rfl dX11_copy_54 ⟨rfl, rfl, rfl⟩
  · refine ar_aload (n := 0) C dX11_copy_41 rfl ?_
    refine cV1 (ar := []) (st := []) C lkX11_110 (kd_sheet hb) (k_isMissing M hb) (by decide) rfl (Nat.le_of_ble_eq_true rfl) rfl dX11_copy_43 ?_
    refine ar_if_eqB (tgt := 55) C dX11_copy_46 (by decide) (fun c_4 => ?_) (fun c_4 => ?_)
    · exact absurd h (by simp [*])
    · refine ar_aload_n (n := 2) C dX11_copy_49 rfl rfl ?_
      refine ar_iconst (v := 1) C dX11_copy_50 (by decide) ?_
      refine cV1 (ar := [.int 1]) (st := []) C lkX11_99 kd_0 (k_found M 1) (by decide) rfl (Nat.le_of_ble_eq_true rfl) rfl dX11_copy_51 ?_
      exact ar_ireturn C rfl dX11_copy_54 ⟨rfl, rfl, rfl⟩
set_option maxHeartbeats 4000000 in
set_option maxRecDepth 100000 in
theorem x_copy_store (M : Mm) {a b : Nat} (ha : a < 8) (hb : b < 8) (i j n : Int32) (hma : decide (M.1 (22 + 2 * a) 1 = -1) = false) (hmb : decide (M.1 (22 + 2 * b) 1 = -1) = false) (h : ¬ M.1 (22 + 2 * a) 1 = M.1 (22 + 2 * b) 1) : AX mX11_copy 2 [.ref 0, .int (nI a), .int i, .int (nI b), .int j, .int n] M (some (.int (-1000015))) (wi M 0 12 5) := by
  refine AM_ofF (by decide +kernel) (Nat.le_of_ble_eq_true rfl) (fun X V C _ _ => ?_)
  show AW X V mX11_copy.2.2.1 T0 M 0 0 _ 0 [(0, .ref 0), (1, .int (nI a)), (2, .int i), (3, .int (nI b)), (4, .int j), (5, .int n)] []
  refine ar_iload_n (n := 1) C dX11_copy_0 rfl rfl ?_
  refine cS1 (ar := [.int (nI a)]) (st := []) C lkX11_90 (k_isSheet M (nI a)) (by decide) rfl (Nat.le_of_ble_eq_true rfl) rfl dX11_copy_1 ?_
  refine ar_if_eqB (tgt := 14) C dX11_copy_4 (by decide) (fun c_1 => False.elim (Bool.noConfusion ((in7 ha).symm.trans c_1))) (fun _ => ?_)
  refine ar_iload_n (n := 3) C dX11_copy_7 rfl rfl ?_
  refine cS1 (ar := [.int (nI b)]) (st := []) C lkX11_90 (k_isSheet M (nI b)) (by decide) rfl (Nat.le_of_ble_eq_true rfl) rfl dX11_copy_8 ?_
  refine ar_if_neB (tgt := 17) C dX11_copy_11 (by decide) (fun _ => ?_) (fun c_2 => False.elim (Bool.noConfusion ((in7 hb).symm.trans c_2)))
  refine ar_aload_n (n := 0) C dX11_copy_17 rfl rfl ?_
  refine ar_getr C flX11_11 rfl kd_0 rf_0_0 dX11_copy_18 ?_
  refine ar_iload_n (n := 1) C dX11_copy_21 rfl rfl ?_
  refine ar_aald (j := a) C kd_1 (by decide) (by decide) rfl ha (rf_sheets ha) dX11_copy_22 ?_
  refine ar_astore (als' := [(6, .ref (22 + 2 * a)), (0, .ref 0), (1, .int (nI a)), (2, .int i), (3, .int (nI b)), (4, .int j), (5, .int n)]) C dX11_copy_23 (by decide) rfl ?_
  refine ar_aload_n (n := 1) C dX11_copy_25 rfl rfl ?_
  refine ar_getr C flX11_11 rfl kd_0 rf_0_0 dX11_copy_26 ?_
  refine ar_iload_n (n := 4) C dX11_copy_29 rfl rfl ?_
  refine ar_aald (j := b) C kd_1 (by decide) (by decide) rfl hb (rf_sheets hb) dX11_copy_30 ?_
  refine ar_astore (als' := [(7, .ref (22 + 2 * b)), (6, .ref (22 + 2 * a)), (0, .ref 0), (1, .int (nI a)), (2, .int i), (3, .int (nI b)), (4, .int j), (5, .int n)]) C dX11_copy_31 (by decide) rfl ?_
  refine ar_aload (n := 1) C dX11_copy_33 rfl ?_
  refine cV1 (ar := []) (st := []) C lkX11_110 (kd_sheet ha) (k_isMissing M ha) (by decide) rfl (Nat.le_of_ble_eq_true rfl) rfl dX11_copy_35 ?_
  refine ar_if_neB (tgt := 49) C dX11_copy_38 (by decide) (fun c_3 => False.elim (Bool.noConfusion (hma.symm.trans c_3))) (fun _ => ?_)
  refine ar_aload (n := 0) C dX11_copy_41 rfl ?_
  refine cV1 (ar := []) (st := []) C lkX11_110 (kd_sheet hb) (k_isMissing M hb) (by decide) rfl (Nat.le_of_ble_eq_true rfl) rfl dX11_copy_43 ?_
  refine ar_if_eqB (tgt := 55) C dX11_copy_46 (by decide) (fun _ => ?_) (fun c_4 => False.elim (Bool.noConfusion (hmb.symm.trans c_4)))
  refine ar_aload (n := 1) C dX11_copy_55 rfl ?_
  refine ar_geti C flX11_122 (kd_sheet ha) dX11_copy_57 ?_
  refine ar_aload (n := 0) C dX11_copy_60 rfl ?_
  refine ar_geti C flX11_122 (kd_sheet hb) dX11_copy_62 ?_
  refine ar_icmp_eq (tgt := 74) C dX11_copy_65 (by decide) (fun c_5 => False.elim (h c_5)) (fun _ => ?_)
  refine ar_aload_n (n := 2) C dX11_copy_68 rfl rfl ?_
  refine ar_iconst (v := 5) C dX11_copy_69 (by decide) ?_
  refine cV1 (ar := [.int 5]) (st := []) C lkX11_99 kd_0 (k_found M 5) (by decide) rfl (Nat.le_of_ble_eq_true rfl) rfl dX11_copy_70 ?_
  exact ar_ireturn C rfl dX11_copy_73 ⟨rfl, rfl, rfl⟩
set_option maxHeartbeats 4000000 in
set_option maxRecDepth 100000 in
theorem x_copy_place (M : Mm) {a b : Nat} (ha : a < 8) (hb : b < 8) (i j n : Int32) (hma : decide (M.1 (22 + 2 * a) 1 = -1) = false) (hmb : decide (M.1 (22 + 2 * b) 1 = -1) = false) (hl : M.1 (22 + 2 * a) 1 = M.1 (22 + 2 * b) 1) (h : (f_holds (M.1 (22 + 2 * a) 2) i n && f_holds (M.1 (22 + 2 * b) 2) j n) = false) : AX mX11_copy 2 [.ref 0, .int (nI a), .int i, .int (nI b), .int j, .int n] M (some (.int (-1000012))) (wi M 0 12 2) := by
  refine AM_ofF (by decide +kernel) (Nat.le_of_ble_eq_true rfl) (fun X V C _ _ => ?_)
  show AW X V mX11_copy.2.2.1 T0 M 0 0 _ 0 [(0, .ref 0), (1, .int (nI a)), (2, .int i), (3, .int (nI b)), (4, .int j), (5, .int n)] []
  refine ar_iload_n (n := 1) C dX11_copy_0 rfl rfl ?_
  refine cS1 (ar := [.int (nI a)]) (st := []) C lkX11_90 (k_isSheet M (nI a)) (by decide) rfl (Nat.le_of_ble_eq_true rfl) rfl dX11_copy_1 ?_
  refine ar_if_eqB (tgt := 14) C dX11_copy_4 (by decide) (fun c_1 => False.elim (Bool.noConfusion ((in7 ha).symm.trans c_1))) (fun _ => ?_)
  refine ar_iload_n (n := 3) C dX11_copy_7 rfl rfl ?_
  refine cS1 (ar := [.int (nI b)]) (st := []) C lkX11_90 (k_isSheet M (nI b)) (by decide) rfl (Nat.le_of_ble_eq_true rfl) rfl dX11_copy_8 ?_
  refine ar_if_neB (tgt := 17) C dX11_copy_11 (by decide) (fun _ => ?_) (fun c_2 => False.elim (Bool.noConfusion ((in7 hb).symm.trans c_2)))
  refine ar_aload_n (n := 0) C dX11_copy_17 rfl rfl ?_
  refine ar_getr C flX11_11 rfl kd_0 rf_0_0 dX11_copy_18 ?_
  refine ar_iload_n (n := 1) C dX11_copy_21 rfl rfl ?_
  refine ar_aald (j := a) C kd_1 (by decide) (by decide) rfl ha (rf_sheets ha) dX11_copy_22 ?_
  refine ar_astore (als' := [(6, .ref (22 + 2 * a)), (0, .ref 0), (1, .int (nI a)), (2, .int i), (3, .int (nI b)), (4, .int j), (5, .int n)]) C dX11_copy_23 (by decide) rfl ?_
  refine ar_aload_n (n := 1) C dX11_copy_25 rfl rfl ?_
  refine ar_getr C flX11_11 rfl kd_0 rf_0_0 dX11_copy_26 ?_
  refine ar_iload_n (n := 4) C dX11_copy_29 rfl rfl ?_
  refine ar_aald (j := b) C kd_1 (by decide) (by decide) rfl hb (rf_sheets hb) dX11_copy_30 ?_
  refine ar_astore (als' := [(7, .ref (22 + 2 * b)), (6, .ref (22 + 2 * a)), (0, .ref 0), (1, .int (nI a)), (2, .int i), (3, .int (nI b)), (4, .int j), (5, .int n)]) C dX11_copy_31 (by decide) rfl ?_
  refine ar_aload (n := 1) C dX11_copy_33 rfl ?_
  refine cV1 (ar := []) (st := []) C lkX11_110 (kd_sheet ha) (k_isMissing M ha) (by decide) rfl (Nat.le_of_ble_eq_true rfl) rfl dX11_copy_35 ?_
  refine ar_if_neB (tgt := 49) C dX11_copy_38 (by decide) (fun c_3 => False.elim (Bool.noConfusion (hma.symm.trans c_3))) (fun _ => ?_)
  refine ar_aload (n := 0) C dX11_copy_41 rfl ?_
  refine cV1 (ar := []) (st := []) C lkX11_110 (kd_sheet hb) (k_isMissing M hb) (by decide) rfl (Nat.le_of_ble_eq_true rfl) rfl dX11_copy_43 ?_
  refine ar_if_eqB (tgt := 55) C dX11_copy_46 (by decide) (fun _ => ?_) (fun c_4 => False.elim (Bool.noConfusion (hmb.symm.trans c_4)))
  refine ar_aload (n := 1) C dX11_copy_55 rfl ?_
  refine ar_geti C flX11_122 (kd_sheet ha) dX11_copy_57 ?_
  refine ar_aload (n := 0) C dX11_copy_60 rfl ?_
  refine ar_geti C flX11_122 (kd_sheet hb) dX11_copy_62 ?_
  refine ar_icmp_eq (tgt := 74) C dX11_copy_65 (by decide) (fun _ => ?_) (fun c_5 => False.elim (c_5 hl))
  refine ar_aload (n := 1) C dX11_copy_74 rfl ?_
  refine ar_iload_n (n := 4) C dX11_copy_76 rfl rfl ?_
  refine ar_iload (n := 7) C dX11_copy_77 rfl ?_
  refine cV1 (ar := [.int i, .int n]) (st := []) C lkX11_114 (kd_sheet ha) (k_holds M ha i n) (by decide) rfl (Nat.le_of_ble_eq_true rfl) rfl dX11_copy_79 ?_
  refine ar_if_eqB (tgt := 97) C dX11_copy_82 (by decide) (fun c_6 => ?_) (fun c_6 => ?_)
  · refine ar_aload_n (n := 2) C dX11_copy_97 rfl rfl ?_
    refine ar_iconst (v := 2) C dX11_copy_98 (by decide) ?_
    refine cV1 (ar := [.int 2]) (st := []) C lkX11_99 kd_0 (k_found M 2) (by decide) rfl (Nat.le_of_ble_eq_true rfl) rfl dX11_copy_99 ?_
    exact ar_ireturn C rfl dX11_copy_102 ⟨rfl, rfl, rfl⟩
  · refine ar_aload (n := 0) C dX11_copy_85 rfl ?_
    refine ar_iload (n := 6) C dX11_copy_87 rfl ?_
    refine ar_iload (n := 7) C dX11_copy_89 rfl ?_
    refine cV1 (ar := [.int j, .int n]) (st := []) C lkX11_114 (kd_sheet hb) (k_holds M hb j n) (by decide) rfl (Nat.le_of_ble_eq_true rfl) rfl dX11_copy_91 ?_
    refine ar_if_neB (tgt := 103) C dX11_copy_94 (by decide) (fun c_7 => ?_) (fun c_7 => ?_)
    · exact absurd h (by simp [*])
    · refine ar_aload_n (n := 2) C dX11_copy_97 rfl rfl ?_
      refine ar_iconst (v := 2) C dX11_copy_98 (by decide) ?_
      refine cV1 (ar := [.int 2]) (st := []) C lkX11_99 kd_0 (k_found M 2) (by decide) rfl (Nat.le_of_ble_eq_true rfl) rfl dX11_copy_99 ?_
      exact ar_ireturn C rfl dX11_copy_102 ⟨rfl, rfl, rfl⟩
set_option maxHeartbeats 4000000 in
set_option maxRecDepth 100000 in
theorem x_copy_ok (M : Mm) {a b : Nat} (ha : a < 8) (hb : b < 8) {i j n : Nat} (hma : decide (M.1 (22 + 2 * a) 1 = -1) = false) (hmb : decide (M.1 (22 + 2 * b) 1 = -1) = false) (hl : M.1 (22 + 2 * a) 1 = M.1 (22 + 2 * b) 1) (h1 : i + n ≤ 80) (h2 : j + n ≤ 80) (ha2 : f_holds (M.1 (22 + 2 * a) 2) (nI i) (nI n) = true) (hb2 : f_holds (M.1 (22 + 2 * b) 2) (nI j) (nI n) = true) : AX mX11_copy 2 [.ref 0, .int (nI a), .int (nI i), .int (nI b), .int (nI j), .int (nI n)] M (some (.int (nI n))) (wi (wcp M (23 + 2 * a) (23 + 2 * b) i j n) 0 12 0) := by
  refine AM_ofF (by decide +kernel) (Nat.le_of_ble_eq_true rfl) (fun X V C _ _ => ?_)
  show AW X V mX11_copy.2.2.1 T0 M 0 0 _ 0 [(0, .ref 0), (1, .int (nI a)), (2, .int (nI i)), (3, .int (nI b)), (4, .int (nI j)), (5, .int (nI n))] []
  refine ar_iload_n (n := 1) C dX11_copy_0 rfl rfl ?_
  refine cS1 (ar := [.int (nI a)]) (st := []) C lkX11_90 (k_isSheet M (nI a)) (by decide) rfl (Nat.le_of_ble_eq_true rfl) rfl dX11_copy_1 ?_
  refine ar_if_eqB (tgt := 14) C dX11_copy_4 (by decide) (fun c_1 => False.elim (Bool.noConfusion ((in7 ha).symm.trans c_1))) (fun _ => ?_)
  refine ar_iload_n (n := 3) C dX11_copy_7 rfl rfl ?_
  refine cS1 (ar := [.int (nI b)]) (st := []) C lkX11_90 (k_isSheet M (nI b)) (by decide) rfl (Nat.le_of_ble_eq_true rfl) rfl dX11_copy_8 ?_
  refine ar_if_neB (tgt := 17) C dX11_copy_11 (by decide) (fun _ => ?_) (fun c_2 => False.elim (Bool.noConfusion ((in7 hb).symm.trans c_2)))
  refine ar_aload_n (n := 0) C dX11_copy_17 rfl rfl ?_
  refine ar_getr C flX11_11 rfl kd_0 rf_0_0 dX11_copy_18 ?_
  refine ar_iload_n (n := 1) C dX11_copy_21 rfl rfl ?_
  refine ar_aald (j := a) C kd_1 (by decide) (by decide) rfl ha (rf_sheets ha) dX11_copy_22 ?_
  refine ar_astore (als' := [(6, .ref (22 + 2 * a)), (0, .ref 0), (1, .int (nI a)), (2, .int (nI i)), (3, .int (nI b)), (4, .int (nI j)), (5, .int (nI n))]) C dX11_copy_23 (by decide) rfl ?_
  refine ar_aload_n (n := 1) C dX11_copy_25 rfl rfl ?_
  refine ar_getr C flX11_11 rfl kd_0 rf_0_0 dX11_copy_26 ?_
  refine ar_iload_n (n := 4) C dX11_copy_29 rfl rfl ?_
  refine ar_aald (j := b) C kd_1 (by decide) (by decide) rfl hb (rf_sheets hb) dX11_copy_30 ?_
  refine ar_astore (als' := [(7, .ref (22 + 2 * b)), (6, .ref (22 + 2 * a)), (0, .ref 0), (1, .int (nI a)), (2, .int (nI i)), (3, .int (nI b)), (4, .int (nI j)), (5, .int (nI n))]) C dX11_copy_31 (by decide) rfl ?_
  refine ar_aload (n := 1) C dX11_copy_33 rfl ?_
  refine cV1 (ar := []) (st := []) C lkX11_110 (kd_sheet ha) (k_isMissing M ha) (by decide) rfl (Nat.le_of_ble_eq_true rfl) rfl dX11_copy_35 ?_
  refine ar_if_neB (tgt := 49) C dX11_copy_38 (by decide) (fun c_3 => False.elim (Bool.noConfusion (hma.symm.trans c_3))) (fun _ => ?_)
  refine ar_aload (n := 0) C dX11_copy_41 rfl ?_
  refine cV1 (ar := []) (st := []) C lkX11_110 (kd_sheet hb) (k_isMissing M hb) (by decide) rfl (Nat.le_of_ble_eq_true rfl) rfl dX11_copy_43 ?_
  refine ar_if_eqB (tgt := 55) C dX11_copy_46 (by decide) (fun _ => ?_) (fun c_4 => False.elim (Bool.noConfusion (hmb.symm.trans c_4)))
  refine ar_aload (n := 1) C dX11_copy_55 rfl ?_
  refine ar_geti C flX11_122 (kd_sheet ha) dX11_copy_57 ?_
  refine ar_aload (n := 0) C dX11_copy_60 rfl ?_
  refine ar_geti C flX11_122 (kd_sheet hb) dX11_copy_62 ?_
  refine ar_icmp_eq (tgt := 74) C dX11_copy_65 (by decide) (fun _ => ?_) (fun c_5 => False.elim (c_5 hl))
  refine ar_aload (n := 1) C dX11_copy_74 rfl ?_
  refine ar_iload_n (n := 4) C dX11_copy_76 rfl rfl ?_
  refine ar_iload (n := 7) C dX11_copy_77 rfl ?_
  refine cV1 (ar := [.int (nI i), .int (nI n)]) (st := []) C lkX11_114 (kd_sheet ha) (k_holds M ha (nI i) (nI n)) (by decide) rfl (Nat.le_of_ble_eq_true rfl) rfl dX11_copy_79 ?_
  refine ar_if_eqB (tgt := 97) C dX11_copy_82 (by decide) (fun c_6 => False.elim (Bool.noConfusion (ha2.symm.trans c_6))) (fun _ => ?_)
  refine ar_aload (n := 0) C dX11_copy_85 rfl ?_
  refine ar_iload (n := 6) C dX11_copy_87 rfl ?_
  refine ar_iload (n := 7) C dX11_copy_89 rfl ?_
  refine cV1 (ar := [.int (nI j), .int (nI n)]) (st := []) C lkX11_114 (kd_sheet hb) (k_holds M hb (nI j) (nI n)) (by decide) rfl (Nat.le_of_ble_eq_true rfl) rfl dX11_copy_91 ?_
  refine ar_if_neB (tgt := 103) C dX11_copy_94 (by decide) (fun _ => ?_) (fun c_7 => False.elim (Bool.noConfusion (hb2.symm.trans c_7)))
  refine ar_aload (n := 1) C dX11_copy_103 rfl ?_
  refine ar_getr C flX11_125 rfl (kd_sheet ha) (rf_items ha) dX11_copy_105 ?_
  refine ar_iload_n (n := 4) C dX11_copy_108 rfl rfl ?_
  refine ar_aload (n := 0) C dX11_copy_109 rfl ?_
  refine ar_getr C flX11_125 rfl (kd_sheet hb) (rf_items hb) dX11_copy_111 ?_
  refine ar_iload (n := 6) C dX11_copy_114 rfl ?_
  refine ar_iload (n := 7) C dX11_copy_116 rfl ?_
  refine ar_copy C (by decide) cp_l (kd_items ha) (kd_items hb) h1 h2 dX11_copy_118 ?_
  refine ar_aload_n (n := 2) C dX11_copy_121 rfl rfl ?_
  refine ar_iload (n := 7) C dX11_copy_122 rfl ?_
  refine cV1 (ar := [.int (nI n)]) (st := []) C lkX11_107 kd_0 (k_clean (wcp M (23 + 2 * a) (23 + 2 * b) i j n) (nI n)) (by decide) rfl (Nat.le_of_ble_eq_true rfl) rfl dX11_copy_124 ?_
  exact ar_ireturn C rfl dX11_copy_127 ⟨rfl, rfl, rfl⟩
