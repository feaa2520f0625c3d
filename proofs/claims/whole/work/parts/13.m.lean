/-! ROW: numbers kept in order -/
def wrow (M : Mm) (k : Nat) (f : Nat → Int32) : Mm := (fun a => if a = k then f else M.1 a, M.2)
theorem wrow_self (M : Mm) (k : Nat) : wrow M k (M.1 k) = M := by
  simp only [wrow]
  congr 1
  funext a
  by_cases h : a = k
  · rw [if_pos h, h]
  · rw [if_neg h]
theorem wrow_wi (M : Mm) (k j : Nat) (f : Nat → Int32) (x : Int32) : wi (wrow M k f) k j x = wrow M k (upd f j x) := by
  simp only [wrow, wi]
  congr 1
  funext a b
  by_cases h : a = k
  · subst h
    simp [upd]
  · simp [h]
def RowC (k : Nat) : Prop := KD T0 k 5 0 ∧ T0r k 0 = some (k + 1) ∧ KD T0 (k + 1) 20 24
theorem rowc_10 : RowC 10 := ⟨kd_10, rf_10_0, kd_11⟩
theorem rowc_12 : RowC 12 := ⟨kd_12, rf_12_0, kd_13⟩
/-- v put into the n numbers of f that stand in order -/
def insF (v : Int32) : Nat → (Nat → Int32) → (Nat → Int32)
  | 0, f => upd f 0 v
  | n + 1, f => if f n ≤ v then upd f (n + 1) v else insF v n (upd f (n + 1) (f n))
def f_mid (f : Nat → Int32) (n : Nat) : Int32 := if n = 0 then 0 else f ((n - 1) / 2)
def ssum (g : Nat → Int32) : Nat → Int32
  | 0 => 0
  | n + 1 => ssum g n + g n
def f_mis (f : Nat → Int32) (n : Nat) : Int32 := ssum (fun j => f_abs (f j - f_mid f n)) n
set_option maxHeartbeats 4000000 in
set_option maxRecDepth 100000 in
theorem l_ins {X : Ctx} {V : Vx} {Q : State → Prop} (C : Cx X V mX5_insert 0) (M : Mm) {k n : Nat} (hk : RowC k) (hn : n < 24) (v : Int32) (F : Nat → Int32) (kk : ∀ (a : Nat) (g : Nat → Int32), a ≤ n → upd g a v = F → AW X V mX5_insert.2.2.1 T0 (wrow M (k + 1) g) 0 0 Q 51 [(2, .int (nI a)), (0, .ref k), (1, .int v)] []) : ∀ (m : Nat) (a : Nat) (g : Nat → Int32), a ≤ n → insF v a g = F → a < m → AW X V mX5_insert.2.2.1 T0 (wrow M (k + 1) g) 0 0 Q 15 [(2, .int (nI a)), (0, .ref k), (1, .int v)] [] := by
  intro m
  induction m with
  | zero => intro a g _ _ h; exact absurd h (Nat.not_lt_zero _)
  | succ m ih =>
    intro a g ha hg hmz
    refine ar_iload_n (n := 0) C dX5_insert_15 rfl rfl ?_
    refine ar_if_le (tgt := 51) C dX5_insert_16 (by decide) (fun c_1 => ?_) (fun c_1 => ?_)
    · have h0 : a = 0 := by
        rcases Nat.eq_zero_or_pos a with q | q
        · exact q
        · exact absurd c_1 (nI_nle q (by omega))
      subst h0
      exact kk 0 g (by omega) hg
    · obtain ⟨b, rfl⟩ : ∃ b, a = b + 1 := ⟨a - 1, by
        have q : ¬ a = 0 := fun q => c_1 (by rw [q]; decide)
        omega⟩
      refine ar_aload_n (n := 1) C dX5_insert_19 rfl rfl ?_
      refine ar_getr C flX5_9 rfl hk.1 hk.2.1 dX5_insert_20 ?_
      refine ar_iload_n (n := 0) C dX5_insert_23 rfl rfl ?_
      refine ar_iconst (v := 1) C dX5_insert_24 (by decide) ?_
      refine ar_isub C dX5_insert_25 ?_
      refine ar_iald (j := b) C hk.2.2 (nI_pred b) (by omega) dX5_insert_26 ?_
      refine ar_topi (g b) (by simp [wrow]) ?_
      refine ar_iload_n (n := 2) C dX5_insert_27 rfl rfl ?_
      refine ar_icmp_le (tgt := 51) C dX5_insert_28 (by decide) (fun c_2 => ?_) (fun c_2 => ?_)
      · refine kk (b + 1) g ha ?_
        rw [← hg]
        simp only [insF]
        rw [if_pos c_2]
      · refine ar_aload_n (n := 1) C dX5_insert_31 rfl rfl ?_
        refine ar_getr C flX5_9 rfl hk.1 hk.2.1 dX5_insert_32 ?_
        refine ar_iload_n (n := 0) C dX5_insert_35 rfl rfl ?_
        refine ar_aload_n (n := 1) C dX5_insert_36 rfl rfl ?_
        refine ar_getr C flX5_9 rfl hk.1 hk.2.1 dX5_insert_37 ?_
        refine ar_iload_n (n := 0) C dX5_insert_40 rfl rfl ?_
        refine ar_iconst (v := 1) C dX5_insert_41 (by decide) ?_
        refine ar_isub C dX5_insert_42 ?_
        refine ar_iald (j := b) C hk.2.2 (nI_pred b) (by omega) dX5_insert_43 ?_
        refine ar_topi (g b) (by simp [wrow]) ?_
        refine ar_iast (j := b + 1) C hk.2.2 rfl (by omega) dX5_insert_44 ?_
        refine ar_iinc (n := 0) (v := nI b) (als' := [(2, .int (nI b)), (0, .ref k), (1, .int v)]) C dX5_insert_45 rfl (pk_m1 b) (by decide) rfl ?_
        refine ar_goto (tgt := 15) C dX5_insert_48 (by decide) ?_
        refine ar_mem (wrow M (k + 1) (upd g (b + 1) (g b))) (wrow_wi _ _ _ _ _) ?_
        refine ih b (upd g (b + 1) (g b)) (by omega) ?_ (by omega)
        rw [← hg]
        simp only [insF]
        rw [if_neg c_2]
set_option maxHeartbeats 4000000 in
set_option maxRecDepth 100000 in
theorem s_ins {X : Ctx} {V : Vx} {Q : State → Prop} (C : Cx X V mX5_insert 0) (M : Mm) {k n a : Nat} (hk : RowC k) (hm : M.1 k 1 = nI n) (hn : n < 24) (ha : a ≤ n) (v : Int32) (g : Nat → Int32) (hg : upd g a v = insF v n (M.1 (k + 1))) (kk : AW X V mX5_insert.2.2.1 T0 (wi (wrow M (k + 1) (insF v n (M.1 (k + 1)))) k 1 (nI (n + 1))) 0 0 Q 68 [(2, .int (nI a)), (0, .ref k), (1, .int v)] []) : AW X V mX5_insert.2.2.1 T0 (wrow M (k + 1) g) 0 0 Q 51 [(2, .int (nI a)), (0, .ref k), (1, .int v)] [] := by
  refine ar_aload_n (n := 1) C dX5_insert_51 rfl rfl ?_
  refine ar_getr C flX5_9 rfl hk.1 hk.2.1 dX5_insert_52 ?_
  refine ar_iload_n (n := 0) C dX5_insert_55 rfl rfl ?_
  refine ar_iload_n (n := 2) C dX5_insert_56 rfl rfl ?_
  refine ar_iast (j := a) C hk.2.2 rfl (by omega) dX5_insert_57 ?_
  refine ar_mem (wrow M (k + 1) (insF v n (M.1 (k + 1)))) (by rw [wrow_wi, hg]) ?_
  refine ar_aload_n (n := 1) C dX5_insert_58 rfl rfl ?_
  refine ar_dup C dX5_insert_59 rfl ?_
  refine ar_geti C flX5_15 hk.1 dX5_insert_60 ?_
  refine ar_topi (nI n) (by simp only [wrow]; rw [if_neg (by omega)]; exact hm) ?_
  refine ar_iconst (v := 1) C dX5_insert_63 (by decide) ?_
  refine ar_iadd C dX5_insert_64 ?_
  refine ar_topi (nI (n + 1)) (nI_1 n) ?_
  refine ar_puti C flX5_15 hk.1 dX5_insert_65 ?_
  exact kk
set_option maxHeartbeats 4000000 in
set_option maxRecDepth 100000 in
theorem k_insert (M : Mm) {k n : Nat} (hk : RowC k) (hm : M.1 k 1 = nI n) (hn : n < 24) (v : Int32) : AX mX5_insert 0 [.ref k, .int v] M none (wi (wrow M (k + 1) (insF v n (M.1 (k + 1)))) k 1 (nI (n + 1))) := by
  refine AM_ofF (by decide +kernel) (Nat.le_of_ble_eq_true rfl) (fun X V C _ _ => ?_)
  show AW X V mX5_insert.2.2.1 T0 M 0 0 _ 0 [(0, .ref k), (1, .int v)] []
  refine ar_aload_n (n := 0) C dX5_insert_0 rfl rfl ?_
  refine ar_geti C flX5_15 hk.1 dX5_insert_1 ?_
  refine ar_topi (nI n) hm ?_
  refine ar_bipush (v := 24) C dX5_insert_4 (by decide) ?_
  refine ar_icmp_lt (tgt := 10) C dX5_insert_6 (by decide) (fun _ => ?_) (fun c_1 => False.elim (c_1 (nI_lt (a := n) (b := 24) hn (by decide))))
  refine ar_aload_n (n := 0) C dX5_insert_10 rfl rfl ?_
  refine ar_geti C flX5_15 hk.1 dX5_insert_11 ?_
  refine ar_topi (nI n) hm ?_
  refine ar_istore_n (als' := [(2, .int (nI n)), (0, .ref k), (1, .int v)]) C dX5_insert_14 rfl (by decide) rfl ?_
  refine ar_mem (wrow M (k + 1) (M.1 (k + 1))) (wrow_self _ _).symm ?_
  exact l_ins C M hk hn v _ (fun a g ha hg => s_ins C M hk hm hn ha v g hg (ar_return C rfl dX5_insert_68 ⟨rfl, rfl, rfl⟩)) (n + 1) n _ (Nat.le_refl _) rfl (Nat.lt_succ_self _)
set_option maxHeartbeats 4000000 in
set_option maxRecDepth 100000 in
theorem k_middle (M : Mm) {k n : Nat} (hk : RowC k) (hm : M.1 k 1 = nI n) (hn : n ≤ 24) : AX mX5_middle 0 [.ref k] M (some (.int (f_mid (M.1 (k + 1)) n))) M := by
  refine AM_ofF (by decide +kernel) (Nat.le_of_ble_eq_true rfl) (fun X V C _ _ => ?_)
  show AW X V mX5_middle.2.2.1 T0 M 0 0 _ 0 [(0, .ref k)] []
  refine ar_aload_n (n := 0) C dX5_middle_0 rfl rfl ?_
  refine ar_geti C flX5_15 hk.1 dX5_middle_1 ?_
  refine ar_topi (nI n) hm ?_
  refine ar_if_ne (tgt := 11) C dX5_middle_4 (by decide) (fun c_1 => ?_) (fun c_1 => ?_)
  · have h0 : ¬ n = 0 := fun q => c_1 (by rw [q]; rfl)
    refine ar_aload_n (n := 0) C dX5_middle_11 rfl rfl ?_
    refine ar_getr C flX5_9 rfl hk.1 hk.2.1 dX5_middle_12 ?_
    refine ar_aload_n (n := 0) C dX5_middle_15 rfl rfl ?_
    refine ar_geti C flX5_15 hk.1 dX5_middle_16 ?_
    refine ar_topi (nI n) hm ?_
    refine ar_iconst (v := 1) C dX5_middle_19 (by decide) ?_
    refine ar_isub C dX5_middle_20 ?_
    refine ar_iconst (v := 2) C dX5_middle_21 (by decide) ?_
    refine ar_idiv C dX5_middle_22 (by decide) ?_
    refine ar_iald (j := (n - 1) / 2) C hk.2.2 (by rw [show nI n - 1 = nI (n - 1) from pk_sub (a := n) (b := 1) (by omega)]; exact pk_div (a := n - 1) (d := 2) (by omega) (by decide) (by decide)) (by omega) dX5_middle_23 ?_
    exact ar_ireturn C rfl dX5_middle_24 ⟨by simp [f_mid, h0], rfl, rfl⟩
  · refine ar_iconst (v := 0) C dX5_middle_7 (by decide) ?_
    refine ar_goto (tgt := 24) C dX5_middle_8 (by decide) ?_
    exact ar_ireturn C rfl dX5_middle_24 ⟨by rw [f_mid, if_pos ((nI_eq (a := n) (b := 0) (by omega) (by decide)).mp c_1)], rfl, rfl⟩
set_option maxHeartbeats 4000000 in
set_option maxRecDepth 100000 in
theorem l_mis {X : Ctx} {V : Vx} {Q : State → Prop} (C : Cx X V mX5_misfit 1) (M : Mm) {k n : Nat} (hk : RowC k) (hm : M.1 k 1 = nI n) (hn : n ≤ 24) (kk : AW X V mX5_misfit.2.2.1 T0 M 0 0 Q 35 [(2, .int (nI n)), (1, .int (ssum (fun j => f_abs (M.1 (k + 1) j - f_mid (M.1 (k + 1)) n)) n)), (0, .ref k)] []) : ∀ (m : Nat) (j : Nat), j ≤ n → n - j < m → AW X V mX5_misfit.2.2.1 T0 (M) 0 0 Q 4 [(2, .int (nI j)), (1, .int (ssum (fun j => f_abs (M.1 (k + 1) j - f_mid (M.1 (k + 1)) n)) j)), (0, .ref k)] [] := by
  intro m
  induction m with
  | zero => intro j _ h; exact absurd h (Nat.not_lt_zero _)
  | succ m ih =>
    intro j hj0 hmz
    refine ar_iload_n (n := 0) C dX5_misfit_4 rfl rfl ?_
    refine ar_aload_n (n := 2) C dX5_misfit_5 rfl rfl ?_
    refine ar_geti C flX5_15 hk.1 dX5_misfit_6 ?_
    refine ar_topi (nI n) hm ?_
    refine ar_icmp_ge (tgt := 35) C dX5_misfit_9 (by decide) (fun c_1 => ?_) (fun c_1 => ?_)
    · have hj : j = n := Nat.le_antisymm hj0 (nat_le c_1 (by omega) (by omega))
      subst hj
      exact kk
    · have hj : j < n := nat_nle c_1 (by omega) (by omega)
      refine ar_iload_n (n := 1) C dX5_misfit_12 rfl rfl ?_
      refine ar_aload_n (n := 2) C dX5_misfit_13 rfl rfl ?_
      refine ar_getr C flX5_9 rfl hk.1 hk.2.1 dX5_misfit_14 ?_
      refine ar_iload_n (n := 0) C dX5_misfit_17 rfl rfl ?_
      refine ar_iald (j := j) C hk.2.2 rfl (by omega) dX5_misfit_18 ?_
      refine ar_aload_n (n := 2) C dX5_misfit_19 rfl rfl ?_
      refine cV1 (ar := []) (st := [.int (M.1 (k + 1) j), .int (ssum (fun j => f_abs (M.1 (k + 1) j - f_mid (M.1 (k + 1)) n)) j)]) C lkX5_19 hk.1 (k_middle M hk hm hn) (by decide) rfl (Nat.le_of_ble_eq_true rfl) rfl dX5_misfit_20 ?_
      refine ar_isub C dX5_misfit_23 ?_
      refine cS1 (ar := [.int ((M.1 (k + 1) j) - (f_mid (M.1 (k + 1)) n))]) (st := [.int (ssum (fun j => f_abs (M.1 (k + 1) j - f_mid (M.1 (k + 1)) n)) j)]) C lkX5_23 (k_abs M ((M.1 (k + 1) j) - (f_mid (M.1 (k + 1)) n))) (by decide) rfl (Nat.le_of_ble_eq_true rfl) rfl dX5_misfit_24 ?_
      refine ar_iadd C dX5_misfit_27 ?_
      refine ar_istore_n (als' := [(1, .int ((ssum (fun j => f_abs (M.1 (k + 1) j - f_mid (M.1 (k + 1)) n)) j) + (f_abs ((M.1 (k + 1) j) - (f_mid (M.1 (k + 1)) n))))), (2, .int (nI j)), (0, .ref k)]) C dX5_misfit_28 rfl (by decide) rfl ?_
      refine ar_iinc (n := 1) (v := (nI (j + 1))) (als' := [(2, .int (nI (j + 1))), (1, .int ((ssum (fun j => f_abs (M.1 (k + 1) j - f_mid (M.1 (k + 1)) n)) j) + (f_abs ((M.1 (k + 1) j) - (f_mid (M.1 (k + 1)) n))))), (0, .ref k)]) C dX5_misfit_29 rfl (nI_1 _) (by decide) rfl ?_
      refine ar_goto (tgt := 4) C dX5_misfit_32 (by decide) ?_
      exact ih (j + 1) (by omega) (by omega)
set_option maxHeartbeats 4000000 in
set_option maxRecDepth 100000 in
theorem k_rmis (M : Mm) {k n : Nat} (hk : RowC k) (hm : M.1 k 1 = nI n) (hn : n ≤ 24) : AX mX5_misfit 1 [.ref k] M (some (.int (f_mis (M.1 (k + 1)) n))) M := by
  refine AM_ofF (by decide +kernel) (Nat.le_of_ble_eq_true rfl) (fun X V C _ _ => ?_)
  show AW X V mX5_misfit.2.2.1 T0 M 0 0 _ 0 [(0, .ref k)] []
  refine ar_iconst (v := 0) C dX5_misfit_0 (by decide) ?_
  refine ar_istore_n (als' := [(1, .int 0), (0, .ref k)]) C dX5_misfit_1 rfl (by decide) rfl ?_
  refine ar_iconst (v := 0) C dX5_misfit_2 (by decide) ?_
  refine ar_istore_n (als' := [(2, .int 0), (1, .int 0), (0, .ref k)]) C dX5_misfit_3 rfl (by decide) rfl ?_
  exact l_mis C M hk hm hn (ar_iload_n (n := 1) C dX5_misfit_35 rfl rfl (ar_ireturn C rfl dX5_misfit_36 ⟨rfl, rfl, rfl⟩)) (n + 1) 0 (by omega) (by omega)
