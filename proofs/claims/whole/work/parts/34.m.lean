/-! THE MODEL: join, rounds -/
/-- the first k of a row, put in order -/
def srt (f : Nat → Int32) : Nat → (Nat → Int32)
  | 0 => f
  | k + 1 => insF (f k) k (srt f k)
theorem srt_hi (f : Nat → Int32) : ∀ k j, k ≤ j → srt f k j = f j
  | 0, _, _ => rfl
  | k + 1, j, h => by
    show insF (f k) k (srt f k) j = f j
    rw [insF_hi _ _ _ _ (by omega), srt_hi f k j (by omega)]
theorem srt_1 (f : Nat → Int32) : srt f 1 = f := by
  funext j
  show upd f 0 (f 0) j = f j
  by_cases h : j = 0
  · simp [upd, h]
  · simp [upd, h]
theorem srt_pre (f g : Nat → Int32) : ∀ m, (∀ j, j < m → f j = g j) → ∀ j, j < m → srt f m j = srt g m j
  | 0, _, j, h => absurd h (Nat.not_lt_zero _)
  | m + 1, e, j, h => by
    show insF (f m) m (srt f m) j = insF (g m) m (srt g m) j
    rw [e m (by omega)]
    exact insF_pre _ m _ _ (fun q hq => srt_pre f g m (fun j hj => e j (by omega)) q hq) j (by omega)
/-- the differences of the marks that both have, one behind the other -/
def col (h1 h2 d f0 : Nat → Int32) : Nat → (Nat → Int32)
  | 0 => f0
  | i + 1 => if h1 i = 0 then col h1 h2 d f0 i else if h2 i = 0 then col h1 h2 d f0 i else upd (col h1 h2 d f0 i) (cm h1 h2 i) (d i)
theorem srt_jr (h1 h2 d f0 : Nat → Int32) : ∀ i j, j < cm h1 h2 i → srt (col h1 h2 d f0 i) (cm h1 h2 i) j = jr h1 h2 d z0 i j
  | 0, j, h => by simp [cm] at h
  | i + 1, j, h => by
    simp only [jr, cm, col] at h ⊢
    by_cases c1 : h1 i = 0
    · simp only [if_pos c1] at h ⊢
      exact srt_jr h1 h2 d f0 i j h
    · simp only [if_neg c1] at h ⊢
      by_cases c2 : h2 i = 0
      · simp only [if_pos c2] at h ⊢
        exact srt_jr h1 h2 d f0 i j h
      · simp only [if_neg c2] at h ⊢
        show insF (upd (col h1 h2 d f0 i) (cm h1 h2 i) (d i) (cm h1 h2 i)) (cm h1 h2 i) _ j = _
        rw [pk_us]
        refine insF_pre _ _ _ _ (fun q hq => ?_) j (by omega)
        rw [← srt_jr h1 h2 d f0 i q hq]
        refine srt_pre _ _ _ (fun r hr => ?_) q hq
        exact pk_un (by omega)
abbrev mH (M : Mm) : Nat → Nat → Int32 := fun a t => M.1 105 (24 * a + t)
abbrev mX (M : Mm) : Nat → Nat → Int32 := fun a t => M.1 106 (24 * a + t)
abbrev mY (M : Mm) : Nat → Nat → Int32 := fun a t => M.1 107 (24 * a + t)
/-- i marks looked at: how many both have, and their differences -/
def JM (M : Mm) (h1 h2 d : Nat → Int32) (i : Nat) (M1 : Mm) : Prop := M1.1 96 14 = nI (cm h1 h2 i) ∧ M1.1 108 = col h1 h2 d (M.1 108) i ∧ (∀ j, j ≠ 14 → M1.1 96 j = M.1 96 j) ∧ (∀ c, c ≠ 96 → c ≠ 108 → M1.1 c = M.1 c)
def JS (M : Mm) (h1 h2 d : Nat → Int32) (M1 : Mm) : Prop := M1.1 96 14 = nI (cm h1 h2 24) ∧ (∀ j, j < cm h1 h2 24 → M1.1 108 j = jr h1 h2 d z0 24 j) ∧ (∀ j, j ≠ 14 → M1.1 96 j = M.1 96 j) ∧ (∀ c, c ≠ 96 → c ≠ 108 → M1.1 c = M.1 c)
theorem JM_no {M M1 : Mm} {h1 h2 d : Nat → Int32} {i : Nat} (h : h1 i = 0 ∨ h2 i = 0) (hJ : JM M h1 h2 d i M1) : JM M h1 h2 d (i + 1) M1 := by
  have e1 : cm h1 h2 (i + 1) = cm h1 h2 i := by
    simp only [cm]
    rcases h with h | h
    · rw [if_pos h]
    · rw [if_pos h]; split <;> rfl
  have e2 : col h1 h2 d (M.1 108) (i + 1) = col h1 h2 d (M.1 108) i := by
    simp only [col]
    rcases h with h | h
    · rw [if_pos h]
    · rw [if_pos h]; split <;> rfl
  unfold JM
  rw [e1, e2]
  exact hJ
theorem JM_yes {M M1 : Mm} {h1 h2 d : Nat → Int32} {i : Nat} {v : Int32} (n1 : ¬ h1 i = 0) (n2 : ¬ h2 i = 0) (ev : v = d i) (hJ : JM M h1 h2 d i M1) : JM M h1 h2 d (i + 1) (wi (wi M1 108 (cm h1 h2 i) v) 96 14 (nI (cm h1 h2 i + 1))) := by
  have e1 : cm h1 h2 (i + 1) = cm h1 h2 i + 1 := by simp only [cm]; rw [if_neg n1, if_neg n2]
  have e2 : col h1 h2 d (M.1 108) (i + 1) = upd (col h1 h2 d (M.1 108) i) (cm h1 h2 i) (d i) := by simp only [col]; rw [if_neg n1, if_neg n2]
  obtain ⟨a1, a2, a3, a4⟩ := hJ
  refine ⟨?_, ?_, fun j hj => ?_, fun c c1 c2 => ?_⟩
  · rw [e1]; simp [wi]
  · rw [e2, ← a2, ← ev]; funext b; simp [wi, upd]
  · rw [← a3 j hj]; simp [wi, hj]
  · rw [← a4 c c1 c2]; funext b; simp [wi, c1, c2]
theorem rem_nx : ∀ n, n < 9 → 2 ≤ n → ∀ k, k < n → nI k + 1 - (nI k + 1) / nI n * nI n = nI (nx n k) := by decide
theorem nx_lt {n k : Nat} (h : 2 ≤ n) (h8 : n ≤ 8) (hk : k < n) : nx n k < 8 := by unfold nx; split <;> omega
set_option maxHeartbeats 4000000 in
set_option maxRecDepth 100000 in
theorem l_mins {X : Ctx} {V : Vx} {Q : State → Prop} (C : Cx X V mX12_middle 0) (M : Mm) {k : Nat} (hk : k < 24) (v : Int32) (F : Nat → Int32) (kk : ∀ (a : Nat) (g : Nat → Int32), a ≤ k → upd g a v = F → AW X V mX12_middle.2.2.1 T0 (wrow M 108 g) 0 0 Q 55 [(3, .int (nI a)), (2, .int v), (1, .int (nI k)), (0, .ref 96)] []) : ∀ (m : Nat) (a : Nat) (g : Nat → Int32), a ≤ k → insF v a g = F → a < m → AW X V mX12_middle.2.2.1 T0 (wrow M 108 g) 0 0 Q 19 [(3, .int (nI a)), (2, .int v), (1, .int (nI k)), (0, .ref 96)] [] := by
  intro m
  induction m with
  | zero => intro a g _ _ h; exact absurd h (Nat.not_lt_zero _)
  | succ m ih =>
    intro a g ha hg hmz
    refine ar_iload_n (n := 0) C dX12_middle_19 rfl rfl ?_
    refine ar_if_le (tgt := 55) C dX12_middle_20 (by decide) (fun c_1 => ?_) (fun c_1 => ?_)
    · have h0 : a = 0 := by
        rcases Nat.eq_zero_or_pos a with q | q
        · exact q
        · exact absurd c_1 (nI_nle q (by omega))
      subst h0
      exact kk 0 g (by omega) hg
    · obtain ⟨b, rfl⟩ : ∃ b, a = b + 1 := ⟨a - 1, by
        have q : ¬ a = 0 := fun q => c_1 (by rw [q]; decide)
        omega⟩
      refine ar_aload_n (n := 3) C dX12_middle_23 rfl rfl ?_
      refine ar_getr C flX12_44 rfl kd_96 rf_96_18 dX12_middle_24 ?_
      refine ar_iload_n (n := 0) C dX12_middle_27 rfl rfl ?_
      refine ar_iconst (v := 1) C dX12_middle_28 (by decide) ?_
      refine ar_isub C dX12_middle_29 ?_
      refine ar_iald (j := b) C kd_108 (nI_pred b) (by omega) dX12_middle_30 ?_
      refine ar_topi (g b) (by simp [wrow]) ?_
      refine ar_iload_n (n := 1) C dX12_middle_31 rfl rfl ?_
      refine ar_icmp_le (tgt := 55) C dX12_middle_32 (by decide) (fun c_2 => ?_) (fun c_2 => ?_)
      · refine kk (b + 1) g ha ?_
        rw [← hg]
        simp only [insF]
        rw [if_pos c_2]
      · refine ar_aload_n (n := 3) C dX12_middle_35 rfl rfl ?_
        refine ar_getr C flX12_44 rfl kd_96 rf_96_18 dX12_middle_36 ?_
        refine ar_iload_n (n := 0) C dX12_middle_39 rfl rfl ?_
        refine ar_aload_n (n := 3) C dX12_middle_40 rfl rfl ?_
        refine ar_getr C flX12_44 rfl kd_96 rf_96_18 dX12_middle_41 ?_
        refine ar_iload_n (n := 0) C dX12_middle_44 rfl rfl ?_
        refine ar_iconst (v := 1) C dX12_middle_45 (by decide) ?_
        refine ar_isub C dX12_middle_46 ?_
        refine ar_iald (j := b) C kd_108 (nI_pred b) (by omega) dX12_middle_47 ?_
        refine ar_topi (g b) (by simp [wrow]) ?_
        refine ar_iast (j := b + 1) C kd_108 rfl (by omega) dX12_middle_48 ?_
        refine ar_iinc (n := 0) (v := nI b) (als' := [(3, .int (nI b)), (2, .int v), (1, .int (nI k)), (0, .ref 96)]) C dX12_middle_49 rfl (pk_m1 b) (by decide) rfl ?_
        refine ar_goto (tgt := 19) C dX12_middle_52 (by decide) ?_
        refine ar_mem (wrow M 108 (upd g (b + 1) (g b))) (wrow_wi _ _ _ _ _) ?_
        refine ih b (upd g (b + 1) (g b)) (by omega) ?_ (by omega)
        rw [← hg]
        simp only [insF]
        rw [if_neg c_2]
set_option maxHeartbeats 4000000 in
set_option maxRecDepth 100000 in
theorem l_msrt {X : Ctx} {V : Vx} {Q : State → Prop} (C : Cx X V mX12_middle 0) (M : Mm) {n : Nat} (hm : M.1 96 14 = nI n) (hn1 : 1 ≤ n) (hn : n ≤ 24) (kk : AW X V mX12_middle.2.2.1 T0 (wrow M 108 (srt (M.1 108) n)) 0 0 Q 68 [(1, .int (nI n)), (0, .ref 96)] []) : ∀ (m : Nat) (k : Nat), 1 ≤ k → k ≤ n → n - k < m → AW X V mX12_middle.2.2.1 T0 (wrow M 108 (srt (M.1 108) k)) 0 0 Q 2 [(1, .int (nI k)), (0, .ref 96)] [] := by
  intro m
  induction m with
  | zero => intro k _ _ h; exact absurd h (Nat.not_lt_zero _)
  | succ m ih =>
    intro k hk1 hk0 hmz
    refine ar_iload_n (n := 0) C dX12_middle_2 rfl rfl ?_
    refine ar_aload_n (n := 1) C dX12_middle_3 rfl rfl ?_
    refine ar_geti C flX12_150 kd_96 dX12_middle_4 ?_
    refine ar_topi (nI n) (by simp only [wrow]; exact hm) ?_
    refine ar_icmp_ge (tgt := 68) C dX12_middle_7 (by decide) (fun c_1 => ?_) (fun c_1 => ?_)
    · have hk : k = n := Nat.le_antisymm hk0 (nat_le c_1 (by omega) (by omega))
      subst hk
      exact kk
    · have hk : k < n := nat_nle c_1 (by omega) (by omega)
      refine ar_aload_n (n := 1) C dX12_middle_10 rfl rfl ?_
      refine ar_getr C flX12_44 rfl kd_96 rf_96_18 dX12_middle_11 ?_
      refine ar_iload_n (n := 0) C dX12_middle_14 rfl rfl ?_
      refine ar_iald (j := k) C kd_108 rfl (by omega) dX12_middle_15 ?_
      refine ar_topi (M.1 108 k) (by rw [wrow_at]; exact srt_hi _ k k (Nat.le_refl _)) ?_
      refine ar_istore_n (als' := [(2, .int (M.1 108 k)), (1, .int (nI k)), (0, .ref 96)]) C dX12_middle_16 rfl (by decide) rfl ?_
      refine ar_iload_n (n := 1) C dX12_middle_17 rfl rfl ?_
      refine ar_istore_n (als' := [(3, .int (nI k)), (2, .int (M.1 108 k)), (1, .int (nI k)), (0, .ref 96)]) C dX12_middle_18 rfl (by decide) rfl ?_
      refine l_mins C M (k := k) (by omega) (M.1 108 k) (srt (M.1 108) (k + 1)) (fun a g ha hg => ?_) (k + 1) k (srt (M.1 108) k) (Nat.le_refl _) rfl (Nat.lt_succ_self _)
      refine ar_aload_n (n := 3) C dX12_middle_55 rfl rfl ?_
      refine ar_getr C flX12_44 rfl kd_96 rf_96_18 dX12_middle_56 ?_
      refine ar_iload_n (n := 0) C dX12_middle_59 rfl rfl ?_
      refine ar_iload_n (n := 1) C dX12_middle_60 rfl rfl ?_
      refine ar_iast (j := a) C kd_108 rfl (by omega) dX12_middle_61 ?_
      refine ar_iinc (n := 2) (v := (nI (k + 1))) (als' := [(1, .int (nI (k + 1))), (3, .int (nI a)), (2, .int (M.1 108 k)), (0, .ref 96)]) C dX12_middle_62 rfl (nI_1 _) (by decide) rfl ?_
      refine ar_goto (tgt := 2) C dX12_middle_65 (by decide) ?_
      refine ar_sub [0, 3] rfl ?_
      refine ar_mem (wrow M 108 (srt (M.1 108) (k + 1))) (by rw [wrow_wi, hg]) ?_
      exact ih (k + 1) (by omega) (by omega) (by omega)
set_option maxHeartbeats 4000000 in
set_option maxRecDepth 100000 in
theorem m_middle (M : Mm) {n : Nat} (hm : M.1 96 14 = nI n) (hn1 : 1 ≤ n) (hn : n ≤ 24) : AX mX12_middle 0 [.ref 96] M (some (.int (f_mid (srt (M.1 108) n) n))) (wrow M 108 (srt (M.1 108) n)) := by
  refine AM_ofF (by decide +kernel) (Nat.le_of_ble_eq_true rfl) (fun X V C _ _ => ?_)
  show AW X V mX12_middle.2.2.1 T0 M 0 0 _ 0 [(0, .ref 96)] []
  refine ar_iconst (v := 1) C dX12_middle_0 (by decide) ?_
  refine ar_istore_n (als' := [(1, .int 1), (0, .ref 96)]) C dX12_middle_1 rfl (by decide) rfl ?_
  refine ar_mem (wrow M 108 (srt (M.1 108) 1)) (by rw [srt_1]; exact (wrow_self _ _).symm) ?_
  refine l_msrt C M hm hn1 hn ?_ (n + 1) 1 (by omega) (by omega) (by omega)
  refine ar_aload_n (n := 1) C dX12_middle_68 rfl rfl ?_
  refine ar_getr C flX12_44 rfl kd_96 rf_96_18 dX12_middle_69 ?_
  refine ar_aload_n (n := 1) C dX12_middle_72 rfl rfl ?_
  refine ar_getiV (v := nI n) C flX12_150 kd_96 (by simp only [wrow]; exact hm) dX12_middle_73 ?_
  refine ar_iconst (v := 1) C dX12_middle_76 (by decide) ?_
  refine ar_isub C dX12_middle_77 ?_
  refine ar_iconst (v := 2) C dX12_middle_78 (by decide) ?_
  refine ar_idiv C dX12_middle_79 (by decide) ?_
  refine ar_iald (j := (n - 1) / 2) C kd_108 (by rw [show nI n - 1 = nI (n - 1) from pk_sub (a := n) (b := 1) (by omega)]; exact pk_div (a := n - 1) (d := 2) (by omega) (by decide) (by decide)) (by omega) dX12_middle_80 ?_
  exact ar_ireturn C rfl dX12_middle_81 ⟨by rw [wrow_at, f_mid, if_neg (by omega)], rfl, rfl⟩
set_option maxHeartbeats 4000000 in
set_option maxRecDepth 100000 in
theorem l_msum {X : Ctx} {V : Vx} {Q : State → Prop} (C : Cx X V mX12_sumFrom 1) (M : Mm) {n : Nat} (hm : M.1 96 14 = nI n) (hn : n ≤ 24) (v : Int32) (kk : AW X V mX12_sumFrom.2.2.1 T0 M 0 0 Q 32 [(3, .int (nI n)), (2, .int (ssum (fun j => f_abs (M.1 108 j - v)) n)), (0, .ref 96), (1, .int v)] []) : ∀ (m : Nat) (j : Nat), j ≤ n → n - j < m → AW X V mX12_sumFrom.2.2.1 T0 (M) 0 0 Q 4 [(3, .int (nI j)), (2, .int (ssum (fun j => f_abs (M.1 108 j - v)) j)), (0, .ref 96), (1, .int v)] [] := by
  intro m
  induction m with
  | zero => intro j _ h; exact absurd h (Nat.not_lt_zero _)
  | succ m ih =>
    intro j hj0 hmz
    refine ar_iload_n (n := 0) C dX12_sumFrom_4 rfl rfl ?_
    refine ar_aload_n (n := 2) C dX12_sumFrom_5 rfl rfl ?_
    refine ar_geti C flX12_150 kd_96 dX12_sumFrom_6 ?_
    refine ar_topi (nI n) hm ?_
    refine ar_icmp_ge (tgt := 32) C dX12_sumFrom_9 (by decide) (fun c_1 => ?_) (fun c_1 => ?_)
    · have hj : j = n := Nat.le_antisymm hj0 (nat_le c_1 (by omega) (by omega))
      subst hj
      exact kk
    · have hj : j < n := nat_nle c_1 (by omega) (by omega)
      refine ar_iload_n (n := 1) C dX12_sumFrom_12 rfl rfl ?_
      refine ar_aload_n (n := 2) C dX12_sumFrom_13 rfl rfl ?_
      refine ar_getr C flX12_44 rfl kd_96 rf_96_18 dX12_sumFrom_14 ?_
      refine ar_iload_n (n := 0) C dX12_sumFrom_17 rfl rfl ?_
      refine ar_iald (j := j) C kd_108 rfl (by omega) dX12_sumFrom_18 ?_
      refine ar_iload_n (n := 3) C dX12_sumFrom_19 rfl rfl ?_
      refine ar_isub C dX12_sumFrom_20 ?_
      refine cS1 (ar := [.int ((M.1 108 j) - v)]) (st := [.int (ssum (fun j => f_abs (M.1 108 j - v)) j)]) C lkX12_123 (k_size M ((M.1 108 j) - v)) (by decide) rfl (Nat.le_of_ble_eq_true rfl) rfl dX12_sumFrom_21 ?_
      refine ar_iadd C dX12_sumFrom_24 ?_
      refine ar_istore_n (als' := [(2, .int ((ssum (fun j => f_abs (M.1 108 j - v)) j) + (f_abs ((M.1 108 j) - v)))), (3, .int (nI j)), (0, .ref 96), (1, .int v)]) C dX12_sumFrom_25 rfl (by decide) rfl ?_
      refine ar_iinc (n := 1) (v := (nI (j + 1))) (als' := [(3, .int (nI (j + 1))), (2, .int ((ssum (fun j => f_abs (M.1 108 j - v)) j) + (f_abs ((M.1 108 j) - v)))), (0, .ref 96), (1, .int v)]) C dX12_sumFrom_26 rfl (nI_1 _) (by decide) rfl ?_
      refine ar_goto (tgt := 4) C dX12_sumFrom_29 (by decide) ?_
      exact ih (j + 1) (by omega) (by omega)
set_option maxHeartbeats 4000000 in
set_option maxRecDepth 100000 in
theorem m_sumFrom (M : Mm) {n : Nat} (hm : M.1 96 14 = nI n) (hn : n ≤ 24) (v : Int32) : AX mX12_sumFrom 1 [.ref 96, .int v] M (some (.int (ssum (fun j => f_abs (M.1 108 j - v)) n))) M := by
  refine AM_ofF (by decide +kernel) (Nat.le_of_ble_eq_true rfl) (fun X V C _ _ => ?_)
  show AW X V mX12_sumFrom.2.2.1 T0 M 0 0 _ 0 [(0, .ref 96), (1, .int v)] []
  refine ar_iconst (v := 0) C dX12_sumFrom_0 (by decide) ?_
  refine ar_istore_n (als' := [(2, .int 0), (0, .ref 96), (1, .int v)]) C dX12_sumFrom_1 rfl (by decide) rfl ?_
  refine ar_iconst (v := 0) C dX12_sumFrom_2 (by decide) ?_
  refine ar_istore_n (als' := [(3, .int 0), (2, .int 0), (0, .ref 96), (1, .int v)]) C dX12_sumFrom_3 rfl (by decide) rfl ?_
  exact l_msum C M hm hn v (ar_iload_n (n := 1) C dX12_sumFrom_32 rfl rfl (ar_ireturn C rfl dX12_sumFrom_33 ⟨rfl, rfl, rfl⟩)) (n + 1) 0 (by omega) (by omega)
theorem m_midQ (M M1 : Mm) {h1 h2 d : Nat → Int32} (hJ : JM M h1 h2 d 24 M1) (hc : 1 ≤ cm h1 h2 24) : AQ mX12_middle 0 [.ref 96] M1 (some (.int (f_mid (jr h1 h2 d z0 24) (cm h1 h2 24)))) (JS M h1 h2 d) := by
  obtain ⟨a1, a2, a3, a4⟩ := hJ
  have hl := cm_le h1 h2 24
  have e : ∀ j, j < cm h1 h2 24 → srt (M1.1 108) (cm h1 h2 24) j = jr h1 h2 d z0 24 j := fun j hj => by rw [a2]; exact srt_jr h1 h2 d (M.1 108) 24 j hj
  have k := m_middle M1 a1 hc hl
  rw [mid_pre e] at k
  refine AQ_wk (P := fun M' => M' = wrow M1 108 (srt (M1.1 108) (cm h1 h2 24))) k (fun M' hM' => ?_)
  subst hM'
  refine ⟨a1, fun j hj => ?_, a3, fun c c1 c2 => ?_⟩
  · rw [wrow_at]; exact e j hj
  · rw [← a4 c c1 c2]; exact if_neg c2
theorem m_sumQ (M M1 : Mm) {h1 h2 d : Nat → Int32} (hJ : JS M h1 h2 d M1) : AX mX12_sumFrom 1 [.ref 96, .int (f_mid (jr h1 h2 d z0 24) (cm h1 h2 24))] M1 (some (.int (f_mis (jr h1 h2 d z0 24) (cm h1 h2 24)))) M1 := by
  have k := m_sumFrom M1 hJ.1 (cm_le h1 h2 24) (f_mid (jr h1 h2 d z0 24) (cm h1 h2 24))
  rw [ssum_pre (g := fun j => f_abs (jr h1 h2 d z0 24 j - f_mid (jr h1 h2 d z0 24) (cm h1 h2 24))) (fun j hj => by rw [hJ.2.1 j hj])] at k
  exact k
set_option maxHeartbeats 4000000 in
set_option maxRecDepth 100000 in
theorem l_mcol0 {X : Ctx} {V : Vx} {Q : State → Prop} (C : Cx X V mX12_join 2) (M : Mm) {a b : Nat} (ha : a < 8) (hb : b < 8) {h1 h2 d : Nat → Int32} (e1 : ∀ t, M.1 105 (24 * a + t) = h1 t) (e2 : ∀ t, M.1 105 (24 * b + t) = h2 t) (e3 : ∀ t, M.1 106 (24 * a + t) - M.1 106 (24 * b + t) = d t) (kk : ∀ M1, JM M h1 h2 d 24 M1 → AW X V mX12_join.2.2.1 T0 M1 0 0 Q 144 [(4, .int (nI 24)), (3, .int 0), (0, .ref 96), (1, .int (nI a)), (2, .int (nI b))] []) : ∀ (m : Nat) (i : Nat) (M1 : Mm), i ≤ 24 → JM M h1 h2 d i M1 → 24 - i < m → AW X V mX12_join.2.2.1 T0 (M1) 0 0 Q 25 [(4, .int (nI i)), (3, .int 0), (0, .ref 96), (1, .int (nI a)), (2, .int (nI b))] [] := by
  intro m
  induction m with
  | zero => intro i M1 _ _ h; exact absurd h (Nat.not_lt_zero _)
  | succ m ih =>
    intro i M1 hi0 hJ hmz
    refine ar_iload (n := 0) C dX12_join_25 rfl ?_
    refine ar_bipush (v := 24) C dX12_join_27 (by decide) ?_
    refine ar_icmp_ge (tgt := 144) C dX12_join_29 (by decide) (fun c_1 => ?_) (fun c_1 => ?_)
    · have hi : i = 24 := Nat.le_antisymm hi0 (nat_le (a := 24) c_1 (by decide) (by omega))
      subst hi
      exact kk M1 hJ
    · have hi : i < 24 := nat_nle (a := 24) c_1 (by decide) (by omega)
      have hc := cm_le h1 h2 i
      refine ar_aload_n (n := 2) C dX12_join_32 rfl rfl ?_
      refine ar_getr C flX12_34 rfl kd_96 rf_96_11 dX12_join_33 ?_
      refine ar_bipush (v := 24) C dX12_join_36 (by decide) ?_
      refine ar_iload_n (n := 3) C dX12_join_38 rfl rfl ?_
      refine ar_imul C dX12_join_39 ?_
      refine ar_iload (n := 0) C dX12_join_40 rfl ?_
      refine ar_iadd C dX12_join_42 ?_
      refine ar_zald (j := 24 * a + i) C kd_105 (ix24 a i) (by omega) dX12_join_43 ?_
      refine ar_topi (h1 i) ((congrFun (hJ.2.2.2 105 (by decide) (by decide)) _).trans (e1 i)) ?_
      refine ar_if_eq (tgt := 138) C dX12_join_44 (by decide) (fun c_2 => ?_) (fun c_2 => ?_)
      · refine ar_iinc (n := 0) (v := (nI (i + 1))) (als' := [(4, .int (nI (i + 1))), (3, .int 0), (0, .ref 96), (1, .int (nI a)), (2, .int (nI b))]) C dX12_join_138 rfl (nI_1 _) (by decide) rfl ?_
        refine ar_goto (tgt := 25) C dX12_join_141 (by decide) ?_
        exact ih (i + 1) M1 (by omega) (JM_no (Or.inl c_2) hJ) (by omega)
      · refine ar_aload_n (n := 2) C dX12_join_47 rfl rfl ?_
        refine ar_getr C flX12_34 rfl kd_96 rf_96_11 dX12_join_48 ?_
        refine ar_bipush (v := 24) C dX12_join_51 (by decide) ?_
        refine ar_iload_n (n := 4) C dX12_join_53 rfl rfl ?_
        refine ar_imul C dX12_join_54 ?_
        refine ar_iload (n := 0) C dX12_join_55 rfl ?_
        refine ar_iadd C dX12_join_57 ?_
        refine ar_zald (j := 24 * b + i) C kd_105 (ix24 b i) (by omega) dX12_join_58 ?_
        refine ar_topi (h2 i) ((congrFun (hJ.2.2.2 105 (by decide) (by decide)) _).trans (e2 i)) ?_
        refine ar_if_eq (tgt := 138) C dX12_join_59 (by decide) (fun c_3 => ?_) (fun c_3 => ?_)
        · refine ar_iinc (n := 0) (v := (nI (i + 1))) (als' := [(4, .int (nI (i + 1))), (3, .int 0), (0, .ref 96), (1, .int (nI a)), (2, .int (nI b))]) C dX12_join_138 rfl (nI_1 _) (by decide) rfl ?_
          refine ar_goto (tgt := 25) C dX12_join_141 (by decide) ?_
          exact ih (i + 1) M1 (by omega) (JM_no (Or.inr c_3) hJ) (by omega)
        · refine ar_aload_n (n := 2) C dX12_join_62 rfl rfl ?_
          refine ar_getr C flX12_44 rfl kd_96 rf_96_18 dX12_join_63 ?_
          refine ar_aload_n (n := 2) C dX12_join_66 rfl rfl ?_
          refine ar_geti C flX12_150 kd_96 dX12_join_67 ?_
          refine ar_topi (nI (cm h1 h2 i)) hJ.1 ?_
          refine ar_iload_n (n := 1) C dX12_join_70 rfl rfl ?_
          refine ar_if_ne (tgt := 102) C dX12_join_71 (by decide) (fun c_4 => absurd c_4 (by decide)) (fun _ => ?_)
          refine ar_aload_n (n := 2) C dX12_join_74 rfl rfl ?_
          refine ar_getr C flX12_38 rfl kd_96 rf_96_12 dX12_join_75 ?_
          refine ar_bipush (v := 24) C dX12_join_78 (by decide) ?_
          refine ar_iload_n (n := 3) C dX12_join_80 rfl rfl ?_
          refine ar_imul C dX12_join_81 ?_
          refine ar_iload (n := 0) C dX12_join_82 rfl ?_
          refine ar_iadd C dX12_join_84 ?_
          refine ar_iald (j := 24 * a + i) C kd_106 (ix24 a i) (by omega) dX12_join_85 ?_
          refine ar_aload_n (n := 2) C dX12_join_86 rfl rfl ?_
          refine ar_getr C flX12_38 rfl kd_96 rf_96_12 dX12_join_87 ?_
          refine ar_bipush (v := 24) C dX12_join_90 (by decide) ?_
          refine ar_iload_n (n := 4) C dX12_join_92 rfl rfl ?_
          refine ar_imul C dX12_join_93 ?_
          refine ar_iload (n := 0) C dX12_join_94 rfl ?_
          refine ar_iadd C dX12_join_96 ?_
          refine ar_iald (j := 24 * b + i) C kd_106 (ix24 b i) (by omega) dX12_join_97 ?_
          refine ar_isub C dX12_join_98 ?_
          refine ar_goto (tgt := 127) C dX12_join_99 (by decide) ?_
          refine ar_topi (d i) (by rw [hJ.2.2.2 106 (by decide) (by decide)]; exact e3 i) ?_
          refine ar_iast (j := cm h1 h2 i) C kd_108 rfl (by omega) dX12_join_127 ?_
          refine ar_aload_n (n := 2) C dX12_join_128 rfl rfl ?_
          refine ar_dup C dX12_join_129 rfl ?_
          refine ar_getiV (v := M1.1 96 14) C flX12_150 kd_96 (by simp [wi, wl]; try omega) dX12_join_130 ?_
          refine ar_topi (nI (cm h1 h2 i)) (by first | exact hJ.1 | (simp [wi]; exact hJ.1)) ?_
          refine ar_iconst (v := 1) C dX12_join_133 (by decide) ?_
          refine ar_iadd C dX12_join_134 ?_
          refine ar_topi (nI (cm h1 h2 i + 1)) (nI_1 _) ?_
          refine ar_puti C flX12_150 kd_96 dX12_join_135 ?_
          refine ar_iinc (n := 0) (v := (nI (i + 1))) (als' := [(4, .int (nI (i + 1))), (3, .int 0), (0, .ref 96), (1, .int (nI a)), (2, .int (nI b))]) C dX12_join_138 rfl (nI_1 _) (by decide) rfl ?_
          refine ar_goto (tgt := 25) C dX12_join_141 (by decide) ?_
          exact ih (i + 1) _ (by omega) (JM_yes c_2 c_3 rfl hJ) (by omega)
set_option maxHeartbeats 4000000 in
set_option maxRecDepth 100000 in
theorem l_mcol1 {X : Ctx} {V : Vx} {Q : State → Prop} (C : Cx X V mX12_join 2) (M : Mm) {a b : Nat} (ha : a < 8) (hb : b < 8) {h1 h2 d : Nat → Int32} (e1 : ∀ t, M.1 105 (24 * a + t) = h1 t) (e2 : ∀ t, M.1 105 (24 * b + t) = h2 t) (e3 : ∀ t, M.1 107 (24 * a + t) - M.1 107 (24 * b + t) = d t) (kk : ∀ M1, JM M h1 h2 d 24 M1 → AW X V mX12_join.2.2.1 T0 M1 0 0 Q 144 [(4, .int (nI 24)), (3, .int 1), (0, .ref 96), (1, .int (nI a)), (2, .int (nI b))] []) : ∀ (m : Nat) (i : Nat) (M1 : Mm), i ≤ 24 → JM M h1 h2 d i M1 → 24 - i < m → AW X V mX12_join.2.2.1 T0 (M1) 0 0 Q 25 [(4, .int (nI i)), (3, .int 1), (0, .ref 96), (1, .int (nI a)), (2, .int (nI b))] [] := by
  intro m
  induction m with
  | zero => intro i M1 _ _ h; exact absurd h (Nat.not_lt_zero _)
  | succ m ih =>
    intro i M1 hi0 hJ hmz
    refine ar_iload (n := 0) C dX12_join_25 rfl ?_
    refine ar_bipush (v := 24) C dX12_join_27 (by decide) ?_
    refine ar_icmp_ge (tgt := 144) C dX12_join_29 (by decide) (fun c_1 => ?_) (fun c_1 => ?_)
    · have hi : i = 24 := Nat.le_antisymm hi0 (nat_le (a := 24) c_1 (by decide) (by omega))
      subst hi
      exact kk M1 hJ
    · have hi : i < 24 := nat_nle (a := 24) c_1 (by decide) (by omega)
      have hc := cm_le h1 h2 i
      refine ar_aload_n (n := 2) C dX12_join_32 rfl rfl ?_
      refine ar_getr C flX12_34 rfl kd_96 rf_96_11 dX12_join_33 ?_
      refine ar_bipush (v := 24) C dX12_join_36 (by decide) ?_
      refine ar_iload_n (n := 3) C dX12_join_38 rfl rfl ?_
      refine ar_imul C dX12_join_39 ?_
      refine ar_iload (n := 0) C dX12_join_40 rfl ?_
      refine ar_iadd C dX12_join_42 ?_
      refine ar_zald (j := 24 * a + i) C kd_105 (ix24 a i) (by omega) dX12_join_43 ?_
      refine ar_topi (h1 i) ((congrFun (hJ.2.2.2 105 (by decide) (by decide)) _).trans (e1 i)) ?_
      refine ar_if_eq (tgt := 138) C dX12_join_44 (by decide) (fun c_2 => ?_) (fun c_2 => ?_)
      · refine ar_iinc (n := 0) (v := (nI (i + 1))) (als' := [(4, .int (nI (i + 1))), (3, .int 1), (0, .ref 96), (1, .int (nI a)), (2, .int (nI b))]) C dX12_join_138 rfl (nI_1 _) (by decide) rfl ?_
        refine ar_goto (tgt := 25) C dX12_join_141 (by decide) ?_
        exact ih (i + 1) M1 (by omega) (JM_no (Or.inl c_2) hJ) (by omega)
      · refine ar_aload_n (n := 2) C dX12_join_47 rfl rfl ?_
        refine ar_getr C flX12_34 rfl kd_96 rf_96_11 dX12_join_48 ?_
        refine ar_bipush (v := 24) C dX12_join_51 (by decide) ?_
        refine ar_iload_n (n := 4) C dX12_join_53 rfl rfl ?_
        refine ar_imul C dX12_join_54 ?_
        refine ar_iload (n := 0) C dX12_join_55 rfl ?_
        refine ar_iadd C dX12_join_57 ?_
        refine ar_zald (j := 24 * b + i) C kd_105 (ix24 b i) (by omega) dX12_join_58 ?_
        refine ar_topi (h2 i) ((congrFun (hJ.2.2.2 105 (by decide) (by decide)) _).trans (e2 i)) ?_
        refine ar_if_eq (tgt := 138) C dX12_join_59 (by decide) (fun c_3 => ?_) (fun c_3 => ?_)
        · refine ar_iinc (n := 0) (v := (nI (i + 1))) (als' := [(4, .int (nI (i + 1))), (3, .int 1), (0, .ref 96), (1, .int (nI a)), (2, .int (nI b))]) C dX12_join_138 rfl (nI_1 _) (by decide) rfl ?_
          refine ar_goto (tgt := 25) C dX12_join_141 (by decide) ?_
          exact ih (i + 1) M1 (by omega) (JM_no (Or.inr c_3) hJ) (by omega)
        · refine ar_aload_n (n := 2) C dX12_join_62 rfl rfl ?_
          refine ar_getr C flX12_44 rfl kd_96 rf_96_18 dX12_join_63 ?_
          refine ar_aload_n (n := 2) C dX12_join_66 rfl rfl ?_
          refine ar_geti C flX12_150 kd_96 dX12_join_67 ?_
          refine ar_topi (nI (cm h1 h2 i)) hJ.1 ?_
          refine ar_iload_n (n := 1) C dX12_join_70 rfl rfl ?_
          refine ar_if_ne (tgt := 102) C dX12_join_71 (by decide) (fun _ => ?_) (fun c_4 => absurd c_4 (by decide))
          refine ar_aload_n (n := 2) C dX12_join_102 rfl rfl ?_
          refine ar_getr C flX12_41 rfl kd_96 rf_96_13 dX12_join_103 ?_
          refine ar_bipush (v := 24) C dX12_join_106 (by decide) ?_
          refine ar_iload_n (n := 3) C dX12_join_108 rfl rfl ?_
          refine ar_imul C dX12_join_109 ?_
          refine ar_iload (n := 0) C dX12_join_110 rfl ?_
          refine ar_iadd C dX12_join_112 ?_
          refine ar_iald (j := 24 * a + i) C kd_107 (ix24 a i) (by omega) dX12_join_113 ?_
          refine ar_aload_n (n := 2) C dX12_join_114 rfl rfl ?_
          refine ar_getr C flX12_41 rfl kd_96 rf_96_13 dX12_join_115 ?_
          refine ar_bipush (v := 24) C dX12_join_118 (by decide) ?_
          refine ar_iload_n (n := 4) C dX12_join_120 rfl rfl ?_
          refine ar_imul C dX12_join_121 ?_
          refine ar_iload (n := 0) C dX12_join_122 rfl ?_
          refine ar_iadd C dX12_join_124 ?_
          refine ar_iald (j := 24 * b + i) C kd_107 (ix24 b i) (by omega) dX12_join_125 ?_
          refine ar_isub C dX12_join_126 ?_
          refine ar_topi (d i) (by rw [hJ.2.2.2 107 (by decide) (by decide)]; exact e3 i) ?_
          refine ar_iast (j := cm h1 h2 i) C kd_108 rfl (by omega) dX12_join_127 ?_
          refine ar_aload_n (n := 2) C dX12_join_128 rfl rfl ?_
          refine ar_dup C dX12_join_129 rfl ?_
          refine ar_getiV (v := M1.1 96 14) C flX12_150 kd_96 (by simp [wi, wl]; try omega) dX12_join_130 ?_
          refine ar_topi (nI (cm h1 h2 i)) (by first | exact hJ.1 | (simp [wi]; exact hJ.1)) ?_
          refine ar_iconst (v := 1) C dX12_join_133 (by decide) ?_
          refine ar_iadd C dX12_join_134 ?_
          refine ar_topi (nI (cm h1 h2 i + 1)) (nI_1 _) ?_
          refine ar_puti C flX12_150 kd_96 dX12_join_135 ?_
          refine ar_iinc (n := 0) (v := (nI (i + 1))) (als' := [(4, .int (nI (i + 1))), (3, .int 1), (0, .ref 96), (1, .int (nI a)), (2, .int (nI b))]) C dX12_join_138 rfl (nI_1 _) (by decide) rfl ?_
          refine ar_goto (tgt := 25) C dX12_join_141 (by decide) ?_
          exact ih (i + 1) _ (by omega) (JM_yes c_2 c_3 rfl hJ) (by omega)
/-- joined: what the model holds behind it -/
def JF2 (M M1 : Mm) : Prop := (∀ j, (j < 14 ∨ 17 < j) → M1.1 96 j = M.1 96 j) ∧ (∀ c, c ≠ 96 → c ≠ 108 → M1.1 c = M.1 c)
def JQ (M : Mm) (a b : Nat) (M1 : Mm) : Prop := M1.1 96 14 = nI (q_cm (mH M) a b) ∧ (¬ q_cm (mH M) a b = 0 → M1.1 96 15 = q_sx (mH M) (mX M) a b ∧ M1.1 96 16 = q_sx (mH M) (mY M) a b ∧ M1.1 96 17 = q_ms (mH M) (mX M) (mY M) a b) ∧ JF2 M M1
abbrev dXf (M : Mm) (a b : Nat) : Nat → Int32 := fun t => M.1 106 (24 * a + t) - M.1 106 (24 * b + t)
abbrev dYf (M : Mm) (a b : Nat) : Nat → Int32 := fun t => M.1 107 (24 * a + t) - M.1 107 (24 * b + t)
theorem JQ_fin {M Ma Mb M1 M2 : Mm} {a b : Nat} {u : Int32} (hMa : Ma = wi (wi (wi M 96 14 0) 96 17 0) 96 14 0) (h1 : JS Ma (mH M a) (mH M b) (dXf M a b) M1)
    (hMb : Mb = wi (wi (wi (wi M1 96 17 (0 + f_mis (jr (mH M a) (mH M b) (dXf M a b) z0 24) (cm (mH M a) (mH M b) 24))) 96 15 (f_mid (jr (mH M a) (mH M b) (dXf M a b) z0 24) (cm (mH M a) (mH M b) 24))) 96 16 u) 96 14 0)
    (h2 : JS Mb (mH M a) (mH M b) (dYf M a b) M2) :
    JQ M a b (wi (wi (wi M2 96 17 (0 + f_mis (jr (mH M a) (mH M b) (dXf M a b) z0 24) (cm (mH M a) (mH M b) 24) + f_mis (jr (mH M a) (mH M b) (dYf M a b) z0 24) (cm (mH M a) (mH M b) 24))) 96 15 (f_mid (jr (mH M a) (mH M b) (dXf M a b) z0 24) (cm (mH M a) (mH M b) 24))) 96 16 (f_mid (jr (mH M a) (mH M b) (dYf M a b) z0 24) (cm (mH M a) (mH M b) 24))) := by
  obtain ⟨b1, b2, b3, b4⟩ := h2
  obtain ⟨a1, a2, a3, a4⟩ := h1
  refine ⟨?_, fun _ => ⟨?_, ?_, ?_⟩, fun j hj => ?_, fun c c1 c2 => ?_⟩
  · simp [wi]; exact b1
  · simp [wi]; rfl
  · simp [wi]; rfl
  · simp only [wi]; simp; rfl
  · have n1 : ¬ j = 14 := by omega
    have n2 : ¬ j = 15 := by omega
    have n3 : ¬ j = 16 := by omega
    have n4 : ¬ j = 17 := by omega
    have e1 := b3 j n1
    have e2 := a3 j n1
    rw [hMb] at e1
    rw [hMa] at e2
    simp [wi, n1, n2, n3, n4] at e1 e2 ⊢
    rw [e1, e2]
  · have e1 := b4 c c1 c2
    have e2 := a4 c c1 c2
    rw [hMb] at e1
    rw [hMa] at e2
    funext z
    have e1 := congrFun e1 z
    have e2 := congrFun e2 z
    simp [wi, c1] at e1 e2 ⊢
    rw [e1, e2]
theorem JQ_fin0 {M Ma Mb M1 M2 : Mm} {a b : Nat} {dx dy : Nat → Int32} (hc : q_cm (mH M) a b = 0) (hMa : Ma = wi (wi (wi M 96 14 0) 96 17 0) 96 14 0) (h1 : JM Ma (mH M a) (mH M b) dx 24 M1)
    (hMb : Mb = wi M1 96 14 0) (h2 : JM Mb (mH M a) (mH M b) dy 24 M2) : JQ M a b M2 := by
  obtain ⟨b1, b2, b3, b4⟩ := h2
  obtain ⟨a1, a2, a3, a4⟩ := h1
  refine ⟨b1, fun q => absurd hc q, fun j hj => ?_, fun c c1 c2 => ?_⟩
  · have n1 : ¬ j = 14 := by omega
    have n4 : ¬ j = 17 := by omega
    have e1 := b3 j n1
    have e2 := a3 j n1
    rw [hMb] at e1
    rw [hMa] at e2
    simp [wi, n1, n4] at e1 e2 ⊢
    rw [e1, e2]
  · have e1 := b4 c c1 c2
    have e2 := a4 c c1 c2
    rw [hMb] at e1
    rw [hMa] at e2
    funext z
    have e1 := congrFun e1 z
    have e2 := congrFun e2 z
    simp [wi, c1] at e1 e2 ⊢
    rw [e1, e2]
set_option maxHeartbeats 4000000 in
set_option maxRecDepth 100000 in
theorem m_join_0 (M : Mm) {a b : Nat} (ha : a < 8) (hb : b < 8) (hc : q_cm (mH M) a b = 0) : AQ mX12_join 2 [.ref 96, .int (nI a), .int (nI b)] M none (JQ M a b) := by
  have hc0 : cm (mH M a) (mH M b) 24 = 0 := hc
  refine AM_ofF (by decide +kernel) (Nat.le_of_ble_eq_true rfl) (fun X V C _ _ => ?_)
  show AW X V mX12_join.2.2.1 T0 M 0 0 _ 0 [(0, .ref 96), (1, .int (nI a)), (2, .int (nI b))] []
  refine ar_aload_n (n := 0) C dX12_join_0 rfl rfl ?_
  refine ar_iconst (v := 0) C dX12_join_1 (by decide) ?_
  refine ar_puti C flX12_150 kd_96 dX12_join_2 ?_
  refine ar_aload_n (n := 0) C dX12_join_5 rfl rfl ?_
  refine ar_iconst (v := 0) C dX12_join_6 (by decide) ?_
  refine ar_puti C flX12_153 kd_96 dX12_join_7 ?_
  refine ar_iconst (v := 0) C dX12_join_10 (by decide) ?_
  refine ar_istore_n (als' := [(3, .int 0), (0, .ref 96), (1, .int (nI a)), (2, .int (nI b))]) C dX12_join_11 rfl (by decide) rfl ?_
  refine ar_iload_n (n := 0) C dX12_join_12 rfl rfl ?_
  refine ar_iconst (v := 2) C dX12_join_13 (by decide) ?_
  refine ar_icmp_ge (tgt := 213) C dX12_join_14 (by decide) (fun c_1 => absurd c_1 (by decide)) (fun _ => ?_)
  refine ar_aload_n (n := 1) C dX12_join_17 rfl rfl ?_
  refine ar_iconst (v := 0) C dX12_join_18 (by decide) ?_
  refine ar_puti C flX12_150 kd_96 dX12_join_19 ?_
  refine ar_iconst (v := 0) C dX12_join_22 (by decide) ?_
  refine ar_istore (als' := [(4, .int 0), (3, .int 0), (0, .ref 96), (1, .int (nI a)), (2, .int (nI b))]) C dX12_join_23 (by decide) rfl ?_
  refine l_mcol0 C (wi (wi (wi M 96 14 0) 96 17 0) 96 14 0) ha hb (h1 := mH M a) (h2 := mH M b) (d := dXf M a b) (fun _ => rfl) (fun _ => rfl) (fun _ => rfl) (fun M_2 h_3 => ?_) 25 0 _ (by omega) ⟨rfl, rfl, fun _ _ => rfl, fun _ _ _ => rfl⟩ (by omega)
  refine ar_aload_n (n := 2) C dX12_join_144 rfl rfl ?_
  refine ar_geti C flX12_150 kd_96 dX12_join_145 ?_
  refine ar_topi (nI (cm (mH M a) (mH M b) 24)) h_3.1 ?_
  refine ar_if_le (tgt := 207) C dX12_join_148 (by decide) (fun _ => ?_) (fun c_4 => False.elim (c_4 (by rw [hc0]; decide)))
  refine ar_iinc (n := 1) (v := 1) (als' := [(3, .int 1), (4, .int (nI 24)), (0, .ref 96), (1, .int (nI a)), (2, .int (nI b))]) C dX12_join_207 rfl (by decide) (by decide) rfl ?_
  refine ar_goto (tgt := 12) C dX12_join_210 (by decide) ?_
  refine ar_iload_n (n := 0) C dX12_join_12 rfl rfl ?_
  refine ar_iconst (v := 2) C dX12_join_13 (by decide) ?_
  refine ar_icmp_ge (tgt := 213) C dX12_join_14 (by decide) (fun c_5 => absurd c_5 (by decide)) (fun _ => ?_)
  refine ar_aload_n (n := 2) C dX12_join_17 rfl rfl ?_
  refine ar_iconst (v := 0) C dX12_join_18 (by decide) ?_
  refine ar_puti C flX12_150 kd_96 dX12_join_19 ?_
  refine ar_iconst (v := 0) C dX12_join_22 (by decide) ?_
  refine ar_istore (als' := [(4, .int 0), (3, .int 1), (0, .ref 96), (1, .int (nI a)), (2, .int (nI b))]) C dX12_join_23 (by decide) rfl ?_
  refine l_mcol1 C (wi M_2 96 14 0) ha hb (h1 := mH M a) (h2 := mH M b) (d := dYf M a b) (fun t => by rw [show (wi M_2 96 14 0).1 105 = M.1 105 from by funext z; have q2 := congrFun (h_3.2.2.2 105 (by decide) (by decide)) z; simp [wi] at q2 ⊢; exact q2]) (fun t => by rw [show (wi M_2 96 14 0).1 105 = M.1 105 from by funext z; have q2 := congrFun (h_3.2.2.2 105 (by decide) (by decide)) z; simp [wi] at q2 ⊢; exact q2]) (fun t => by rw [show (wi M_2 96 14 0).1 107 = M.1 107 from by funext z; have q2 := congrFun (h_3.2.2.2 107 (by decide) (by decide)) z; simp [wi] at q2 ⊢; exact q2]) (fun M_6 h_7 => ?_) 25 0 _ (by omega) ⟨rfl, rfl, fun _ _ => rfl, fun _ _ _ => rfl⟩ (by omega)
  refine ar_aload_n (n := 2) C dX12_join_144 rfl rfl ?_
  refine ar_geti C flX12_150 kd_96 dX12_join_145 ?_
  refine ar_topi (nI (cm (mH M a) (mH M b) 24)) h_7.1 ?_
  refine ar_if_le (tgt := 207) C dX12_join_148 (by decide) (fun _ => ?_) (fun c_8 => False.elim (c_8 (by rw [hc0]; decide)))
  refine ar_iinc (n := 1) (v := 2) (als' := [(3, .int 2), (4, .int (nI 24)), (0, .ref 96), (1, .int (nI a)), (2, .int (nI b))]) C dX12_join_207 rfl (by decide) (by decide) rfl ?_
  refine ar_goto (tgt := 12) C dX12_join_210 (by decide) ?_
  refine ar_iload_n (n := 0) C dX12_join_12 rfl rfl ?_
  refine ar_iconst (v := 2) C dX12_join_13 (by decide) ?_
  refine ar_icmp_ge (tgt := 213) C dX12_join_14 (by decide) (fun _ => ?_) (fun c_9 => absurd c_9 (by decide))
  exact ar_return C rfl dX12_join_213 ⟨rfl, rfl, JQ_fin0 hc rfl h_3 rfl h_7⟩
set_option maxHeartbeats 4000000 in
set_option maxRecDepth 100000 in
theorem m_join_1 (M : Mm) {a b : Nat} (ha : a < 8) (hb : b < 8) (hc : ¬ q_cm (mH M) a b = 0) : AQ mX12_join 2 [.ref 96, .int (nI a), .int (nI b)] M none (JQ M a b) := by
  have hc1 : 1 ≤ cm (mH M a) (mH M b) 24 := Nat.one_le_iff_ne_zero.mpr hc
  have hc2 := cm_le (mH M a) (mH M b) 24
  refine AM_ofF (by decide +kernel) (Nat.le_of_ble_eq_true rfl) (fun X V C _ _ => ?_)
  show AW X V mX12_join.2.2.1 T0 M 0 0 _ 0 [(0, .ref 96), (1, .int (nI a)), (2, .int (nI b))] []
  refine ar_aload_n (n := 0) C dX12_join_0 rfl rfl ?_
  refine ar_iconst (v := 0) C dX12_join_1 (by decide) ?_
  refine ar_puti C flX12_150 kd_96 dX12_join_2 ?_
  refine ar_aload_n (n := 0) C dX12_join_5 rfl rfl ?_
  refine ar_iconst (v := 0) C dX12_join_6 (by decide) ?_
  refine ar_puti C flX12_153 kd_96 dX12_join_7 ?_
  refine ar_iconst (v := 0) C dX12_join_10 (by decide) ?_
  refine ar_istore_n (als' := [(3, .int 0), (0, .ref 96), (1, .int (nI a)), (2, .int (nI b))]) C dX12_join_11 rfl (by decide) rfl ?_
  refine ar_iload_n (n := 0) C dX12_join_12 rfl rfl ?_
  refine ar_iconst (v := 2) C dX12_join_13 (by decide) ?_
  refine ar_icmp_ge (tgt := 213) C dX12_join_14 (by decide) (fun c_1 => absurd c_1 (by decide)) (fun _ => ?_)
  refine ar_aload_n (n := 1) C dX12_join_17 rfl rfl ?_
  refine ar_iconst (v := 0) C dX12_join_18 (by decide) ?_
  refine ar_puti C flX12_150 kd_96 dX12_join_19 ?_
  refine ar_iconst (v := 0) C dX12_join_22 (by decide) ?_
  refine ar_istore (als' := [(4, .int 0), (3, .int 0), (0, .ref 96), (1, .int (nI a)), (2, .int (nI b))]) C dX12_join_23 (by decide) rfl ?_
  refine l_mcol0 C (wi (wi (wi M 96 14 0) 96 17 0) 96 14 0) ha hb (h1 := mH M a) (h2 := mH M b) (d := dXf M a b) (fun _ => rfl) (fun _ => rfl) (fun _ => rfl) (fun M_2 h_3 => ?_) 25 0 _ (by omega) ⟨rfl, rfl, fun _ _ => rfl, fun _ _ _ => rfl⟩ (by omega)
  refine ar_aload_n (n := 2) C dX12_join_144 rfl rfl ?_
  refine ar_geti C flX12_150 kd_96 dX12_join_145 ?_
  refine ar_topi (nI (cm (mH M a) (mH M b) 24)) h_3.1 ?_
  refine ar_if_le (tgt := 207) C dX12_join_148 (by decide) (fun c_4 => False.elim (absurd c_4 (nI_nle (Nat.lt_of_lt_of_le Nat.zero_lt_one hc1) (Nat.lt_of_le_of_lt hc2 (by decide))))) (fun _ => ?_)
  refine ar_aload_n (n := 2) C dX12_join_151 rfl rfl ?_
  refine cV1q (ar := []) (st := []) C lkX12_156 kd_96 (m_midQ (wi (wi (wi M 96 14 0) 96 17 0) 96 14 0) M_2 h_3 hc1) (by decide) rfl (Nat.le_of_ble_eq_true rfl) rfl dX12_join_152 (fun M_5 h_6 => ?_)
  refine ar_istore (als' := [(4, .int (f_mid (jr (mH M a) (mH M b) (dXf M a b) z0 24) (cm (mH M a) (mH M b) 24))), (3, .int 0), (0, .ref 96), (1, .int (nI a)), (2, .int (nI b))]) C dX12_join_155 (by decide) rfl ?_
  refine ar_aload_n (n := 2) C dX12_join_157 rfl rfl ?_
  refine ar_dup C dX12_join_158 rfl ?_
  refine ar_geti C flX12_153 kd_96 dX12_join_159 ?_
  refine ar_topi 0 ((h_6.2.2.1 17 (by decide)).trans rfl) ?_
  refine ar_aload_n (n := 2) C dX12_join_162 rfl rfl ?_
  refine ar_iload (n := 0) C dX12_join_163 rfl ?_
  refine cV1 (ar := [.int (f_mid (jr (mH M a) (mH M b) (dXf M a b) z0 24) (cm (mH M a) (mH M b) 24))]) (st := [.int 0, .ref 96]) C lkX12_160 kd_96 (m_sumQ (wi (wi (wi M 96 14 0) 96 17 0) 96 14 0) M_5 h_6) (by decide) rfl (Nat.le_of_ble_eq_true rfl) rfl dX12_join_165 ?_
  refine ar_iadd C dX12_join_168 ?_
  refine ar_puti C flX12_153 kd_96 dX12_join_169 ?_
  refine ar_aload_n (n := 2) C dX12_join_172 rfl rfl ?_
  refine ar_iload_n (n := 1) C dX12_join_173 rfl rfl ?_
  refine ar_if_ne (tgt := 182) C dX12_join_174 (by decide) (fun c_7 => absurd c_7 (by decide)) (fun _ => ?_)
  refine ar_iload (n := 0) C dX12_join_177 rfl ?_
  refine ar_goto (tgt := 186) C dX12_join_179 (by decide) ?_
  refine ar_puti C flX12_163 kd_96 dX12_join_186 ?_
  refine ar_aload_n (n := 2) C dX12_join_189 rfl rfl ?_
  refine ar_iload_n (n := 1) C dX12_join_190 rfl rfl ?_
  refine ar_iconst (v := 1) C dX12_join_191 (by decide) ?_
  refine ar_icmp_ne (tgt := 200) C dX12_join_192 (by decide) (fun _ => ?_) (fun c_8 => absurd c_8 (by decide))
  refine ar_aload_n (n := 2) C dX12_join_200 rfl rfl ?_
  refine ar_getiV (v := M_5.1 96 16) C flX12_166 kd_96 rfl dX12_join_201 ?_
  refine ar_puti C flX12_166 kd_96 dX12_join_204 ?_
  refine ar_iinc (n := 1) (v := 1) (als' := [(3, .int 1), (4, .int (f_mid (jr (mH M a) (mH M b) (dXf M a b) z0 24) (cm (mH M a) (mH M b) 24))), (0, .ref 96), (1, .int (nI a)), (2, .int (nI b))]) C dX12_join_207 rfl (by decide) (by decide) rfl ?_
  refine ar_goto (tgt := 12) C dX12_join_210 (by decide) ?_
  refine ar_iload_n (n := 0) C dX12_join_12 rfl rfl ?_
  refine ar_iconst (v := 2) C dX12_join_13 (by decide) ?_
  refine ar_icmp_ge (tgt := 213) C dX12_join_14 (by decide) (fun c_9 => absurd c_9 (by decide)) (fun _ => ?_)
  refine ar_aload_n (n := 2) C dX12_join_17 rfl rfl ?_
  refine ar_iconst (v := 0) C dX12_join_18 (by decide) ?_
  refine ar_puti C flX12_150 kd_96 dX12_join_19 ?_
  refine ar_iconst (v := 0) C dX12_join_22 (by decide) ?_
  refine ar_istore (als' := [(4, .int 0), (3, .int 1), (0, .ref 96), (1, .int (nI a)), (2, .int (nI b))]) C dX12_join_23 (by decide) rfl ?_
  refine l_mcol1 C (wi (wi (wi (wi M_5 96 17 (0 + (f_mis (jr (mH M a) (mH M b) (dXf M a b) z0 24) (cm (mH M a) (mH M b) 24)))) 96 15 (f_mid (jr (mH M a) (mH M b) (dXf M a b) z0 24) (cm (mH M a) (mH M b) 24))) 96 16 (M_5.1 96 16)) 96 14 0) ha hb (h1 := mH M a) (h2 := mH M b) (d := dYf M a b) (fun t => by rw [show (wi (wi (wi (wi M_5 96 17 (0 + (f_mis (jr (mH M a) (mH M b) (dXf M a b) z0 24) (cm (mH M a) (mH M b) 24)))) 96 15 (f_mid (jr (mH M a) (mH M b) (dXf M a b) z0 24) (cm (mH M a) (mH M b) 24))) 96 16 (M_5.1 96 16)) 96 14 0).1 105 = M.1 105 from by funext z; have q2 := congrFun (h_6.2.2.2 105 (by decide) (by decide)) z; simp [wi] at q2 ⊢; exact q2]) (fun t => by rw [show (wi (wi (wi (wi M_5 96 17 (0 + (f_mis (jr (mH M a) (mH M b) (dXf M a b) z0 24) (cm (mH M a) (mH M b) 24)))) 96 15 (f_mid (jr (mH M a) (mH M b) (dXf M a b) z0 24) (cm (mH M a) (mH M b) 24))) 96 16 (M_5.1 96 16)) 96 14 0).1 105 = M.1 105 from by funext z; have q2 := congrFun (h_6.2.2.2 105 (by decide) (by decide)) z; simp [wi] at q2 ⊢; exact q2]) (fun t => by rw [show (wi (wi (wi (wi M_5 96 17 (0 + (f_mis (jr (mH M a) (mH M b) (dXf M a b) z0 24) (cm (mH M a) (mH M b) 24)))) 96 15 (f_mid (jr (mH M a) (mH M b) (dXf M a b) z0 24) (cm (mH M a) (mH M b) 24))) 96 16 (M_5.1 96 16)) 96 14 0).1 107 = M.1 107 from by funext z; have q2 := congrFun (h_6.2.2.2 107 (by decide) (by decide)) z; simp [wi] at q2 ⊢; exact q2]) (fun M_10 h_11 => ?_) 25 0 _ (by omega) ⟨rfl, rfl, fun _ _ => rfl, fun _ _ _ => rfl⟩ (by omega)
  refine ar_aload_n (n := 2) C dX12_join_144 rfl rfl ?_
  refine ar_geti C flX12_150 kd_96 dX12_join_145 ?_
  refine ar_topi (nI (cm (mH M a) (mH M b) 24)) h_11.1 ?_
  refine ar_if_le (tgt := 207) C dX12_join_148 (by decide) (fun c_12 => False.elim (absurd c_12 (nI_nle (Nat.lt_of_lt_of_le Nat.zero_lt_one hc1) (Nat.lt_of_le_of_lt hc2 (by decide))))) (fun _ => ?_)
  refine ar_aload_n (n := 2) C dX12_join_151 rfl rfl ?_
  refine cV1q (ar := []) (st := []) C lkX12_156 kd_96 (m_midQ (wi (wi (wi (wi M_5 96 17 (0 + (f_mis (jr (mH M a) (mH M b) (dXf M a b) z0 24) (cm (mH M a) (mH M b) 24)))) 96 15 (f_mid (jr (mH M a) (mH M b) (dXf M a b) z0 24) (cm (mH M a) (mH M b) 24))) 96 16 (M_5.1 96 16)) 96 14 0) M_10 h_11 hc1) (by decide) rfl (Nat.le_of_ble_eq_true rfl) rfl dX12_join_152 (fun M_13 h_14 => ?_)
  refine ar_istore (als' := [(4, .int (f_mid (jr (mH M a) (mH M b) (dYf M a b) z0 24) (cm (mH M a) (mH M b) 24))), (3, .int 1), (0, .ref 96), (1, .int (nI a)), (2, .int (nI b))]) C dX12_join_155 (by decide) rfl ?_
  refine ar_aload_n (n := 2) C dX12_join_157 rfl rfl ?_
  refine ar_dup C dX12_join_158 rfl ?_
  refine ar_geti C flX12_153 kd_96 dX12_join_159 ?_
  refine ar_topi (0 + f_mis (jr (mH M a) (mH M b) (dXf M a b) z0 24) (cm (mH M a) (mH M b) 24)) ((h_14.2.2.1 17 (by decide)).trans (by simp [wi])) ?_
  refine ar_aload_n (n := 2) C dX12_join_162 rfl rfl ?_
  refine ar_iload (n := 0) C dX12_join_163 rfl ?_
  refine cV1 (ar := [.int (f_mid (jr (mH M a) (mH M b) (dYf M a b) z0 24) (cm (mH M a) (mH M b) 24))]) (st := [.int (0 + f_mis (jr (mH M a) (mH M b) (dXf M a b) z0 24) (cm (mH M a) (mH M b) 24)), .ref 96]) C lkX12_160 kd_96 (m_sumQ (wi (wi (wi (wi M_5 96 17 (0 + (f_mis (jr (mH M a) (mH M b) (dXf M a b) z0 24) (cm (mH M a) (mH M b) 24)))) 96 15 (f_mid (jr (mH M a) (mH M b) (dXf M a b) z0 24) (cm (mH M a) (mH M b) 24))) 96 16 (M_5.1 96 16)) 96 14 0) M_13 h_14) (by decide) rfl (Nat.le_of_ble_eq_true rfl) rfl dX12_join_165 ?_
  refine ar_iadd C dX12_join_168 ?_
  refine ar_puti C flX12_153 kd_96 dX12_join_169 ?_
  refine ar_aload_n (n := 2) C dX12_join_172 rfl rfl ?_
  refine ar_iload_n (n := 1) C dX12_join_173 rfl rfl ?_
  refine ar_if_ne (tgt := 182) C dX12_join_174 (by decide) (fun _ => ?_) (fun c_15 => absurd c_15 (by decide))
  refine ar_aload_n (n := 2) C dX12_join_182 rfl rfl ?_
  refine ar_getiV (v := M_13.1 96 15) C flX12_163 kd_96 rfl dX12_join_183 ?_
  refine ar_topi (f_mid (jr (mH M a) (mH M b) (dXf M a b) z0 24) (cm (mH M a) (mH M b) 24)) ((h_14.2.2.1 15 (by decide)).trans (by simp [wi])) ?_
  refine ar_puti C flX12_163 kd_96 dX12_join_186 ?_
  refine ar_aload_n (n := 2) C dX12_join_189 rfl rfl ?_
  refine ar_iload_n (n := 1) C dX12_join_190 rfl rfl ?_
  refine ar_iconst (v := 1) C dX12_join_191 (by decide) ?_
  refine ar_icmp_ne (tgt := 200) C dX12_join_192 (by decide) (fun c_16 => absurd c_16 (by decide)) (fun _ => ?_)
  refine ar_iload (n := 0) C dX12_join_195 rfl ?_
  refine ar_goto (tgt := 204) C dX12_join_197 (by decide) ?_
  refine ar_puti C flX12_166 kd_96 dX12_join_204 ?_
  refine ar_iinc (n := 1) (v := 2) (als' := [(3, .int 2), (4, .int (f_mid (jr (mH M a) (mH M b) (dYf M a b) z0 24) (cm (mH M a) (mH M b) 24))), (0, .ref 96), (1, .int (nI a)), (2, .int (nI b))]) C dX12_join_207 rfl (by decide) (by decide) rfl ?_
  refine ar_goto (tgt := 12) C dX12_join_210 (by decide) ?_
  refine ar_iload_n (n := 0) C dX12_join_12 rfl rfl ?_
  refine ar_iconst (v := 2) C dX12_join_13 (by decide) ?_
  refine ar_icmp_ge (tgt := 213) C dX12_join_14 (by decide) (fun _ => ?_) (fun c_17 => absurd c_17 (by decide))
  exact ar_return C rfl dX12_join_213 ⟨rfl, rfl, JQ_fin rfl h_6 rfl h_14⟩
theorem m_join (M : Mm) {a b : Nat} (ha : a < 8) (hb : b < 8) : AQ mX12_join 2 [.ref 96, .int (nI a), .int (nI b)] M none (JQ M a b) := by
  by_cases hc : q_cm (mH M) a b = 0
  · exact m_join_0 M ha hb hc
  · exact m_join_1 M ha hb hc
set_option maxHeartbeats 4000000 in
set_option maxRecDepth 100000 in
theorem m_joined_bad (M : Mm) (a b w : Int32)  (hbad : (f_in a 0 7 && f_in b 0 7 && f_in w 0 3) = false) : AX mX12_joined 3 [.ref 96, .int a, .int b, .int w] M (some (.int (-1000001))) (wi M 96 0 0) := by
  refine AM_ofF (by decide +kernel) (Nat.le_of_ble_eq_true rfl) (fun X V C _ _ => ?_)
  show AW X V mX12_joined.2.2.1 T0 M 0 0 _ 0 [(0, .ref 96), (1, .int a), (2, .int b), (3, .int w)] []
  refine ar_aload_n (n := 0) C dX12_joined_0 rfl rfl ?_
  refine ar_iconst (v := 0) C dX12_joined_1 (by decide) ?_
  refine ar_puti C flX12_59 kd_96 dX12_joined_2 ?_
  refine ar_iload_n (n := 1) C dX12_joined_5 rfl rfl ?_
  refine cS1 (ar := [.int a]) (st := []) C lkX12_140 (k_mTrace (wi M 96 0 0) a) (by decide) rfl (Nat.le_of_ble_eq_true rfl) rfl dX12_joined_6 ?_
  refine ar_if_eqB (tgt := 31) C dX12_joined_9 (by decide) (fun c_1 => ?_) (fun c_1 => ?_)
  · refine ar_ldc C kcX12_79 dX12_joined_31 ?_
    exact ar_ireturn C rfl dX12_joined_33 ⟨rfl, rfl, rfl⟩
  · refine ar_iload_n (n := 2) C dX12_joined_12 rfl rfl ?_
    refine cS1 (ar := [.int b]) (st := []) C lkX12_140 (k_mTrace (wi M 96 0 0) b) (by decide) rfl (Nat.le_of_ble_eq_true rfl) rfl dX12_joined_13 ?_
    refine ar_if_eqB (tgt := 31) C dX12_joined_16 (by decide) (fun c_2 => ?_) (fun c_2 => ?_)
    · refine ar_ldc C kcX12_79 dX12_joined_31 ?_
      exact ar_ireturn C rfl dX12_joined_33 ⟨rfl, rfl, rfl⟩
    · refine ar_iload_n (n := 3) C dX12_joined_19 rfl rfl ?_
      refine ar_i2l C dX12_joined_20 ?_
      refine ar_lconst (v := 0) C dX12_joined_21 (by decide) ?_
      refine ar_ldc2 C kcX12_169 dX12_joined_22 ?_
      refine cS1 (ar := [.long w.toInt64, .long 0, .long 3]) (st := []) C lkX12_69 (k_inI (wi M 96 0 0) w 0 3 _ _ (by decide) (by decide)) (by decide) rfl (Nat.le_of_ble_eq_true rfl) rfl dX12_joined_25 ?_
      refine ar_if_neB (tgt := 34) C dX12_joined_28 (by decide) (fun c_3 => ?_) (fun c_3 => ?_)
      · exact absurd hbad (by first | (rw [c_1]; decide) | simp [*])
      · refine ar_ldc C kcX12_79 dX12_joined_31 ?_
        exact ar_ireturn C rfl dX12_joined_33 ⟨rfl, rfl, rfl⟩
set_option maxHeartbeats 4000000 in
set_option maxRecDepth 100000 in
theorem m_joined_0 (M : Mm) {a b : Nat} (ha : a < 8) (hb : b < 8) : AQ mX12_joined 3 [.ref 96, .int (nI a), .int (nI b), .int 0] M (some (.int (nI (q_cm (mH M) a b)))) (JF2 (wi M 96 0 0)) := by
  have hcl : q_cm (mH M) a b ≤ 24 := cm_le _ _ 24
  refine AM_ofF (by decide +kernel) (Nat.le_of_ble_eq_true rfl) (fun X V C _ _ => ?_)
  show AW X V mX12_joined.2.2.1 T0 M 0 0 _ 0 [(0, .ref 96), (1, .int (nI a)), (2, .int (nI b)), (3, .int 0)] []
  refine ar_aload_n (n := 0) C dX12_joined_0 rfl rfl ?_
  refine ar_iconst (v := 0) C dX12_joined_1 (by decide) ?_
  refine ar_puti C flX12_59 kd_96 dX12_joined_2 ?_
  refine ar_iload_n (n := 1) C dX12_joined_5 rfl rfl ?_
  refine cS1 (ar := [.int (nI a)]) (st := []) C lkX12_140 (k_mTrace (wi M 96 0 0) (nI a)) (by decide) rfl (Nat.le_of_ble_eq_true rfl) rfl dX12_joined_6 ?_
  refine ar_if_eqB (tgt := 31) C dX12_joined_9 (by decide) (fun c_1 => False.elim (Bool.noConfusion ((in7 ha).symm.trans c_1))) (fun _ => ?_)
  refine ar_iload_n (n := 2) C dX12_joined_12 rfl rfl ?_
  refine cS1 (ar := [.int (nI b)]) (st := []) C lkX12_140 (k_mTrace (wi M 96 0 0) (nI b)) (by decide) rfl (Nat.le_of_ble_eq_true rfl) rfl dX12_joined_13 ?_
  refine ar_if_eqB (tgt := 31) C dX12_joined_16 (by decide) (fun c_2 => False.elim (Bool.noConfusion ((in7 hb).symm.trans c_2))) (fun _ => ?_)
  refine ar_iload_n (n := 3) C dX12_joined_19 rfl rfl ?_
  refine ar_i2l C dX12_joined_20 ?_
  refine ar_lconst (v := 0) C dX12_joined_21 (by decide) ?_
  refine ar_ldc2 C kcX12_169 dX12_joined_22 ?_
  refine cS1 (ar := [.long ((0 : Int32).toInt64), .long 0, .long 3]) (st := []) C lkX12_69 (k_inI (wi M 96 0 0) 0 0 3 _ _ (by decide) (by decide)) (by decide) rfl (Nat.le_of_ble_eq_true rfl) rfl dX12_joined_25 ?_
  refine ar_if_neB (tgt := 34) C dX12_joined_28 (by decide) (fun _ => ?_) (fun c_3 => False.elim (Bool.noConfusion ((show f_in 0 0 3 = true by decide).symm.trans c_3)))
  refine ar_aload_n (n := 0) C dX12_joined_34 rfl rfl ?_
  refine ar_iload_n (n := 1) C dX12_joined_35 rfl rfl ?_
  refine ar_iload_n (n := 2) C dX12_joined_36 rfl rfl ?_
  refine cV0q (ar := [.int (nI a), .int (nI b)]) (st := []) C lkX12_171 kd_96 (m_join (wi M 96 0 0) ha hb) (by decide) rfl (Nat.le_of_ble_eq_true rfl) rfl dX12_joined_37 (fun M_4 h_5 => ?_)
  have hJ : M_4.1 96 14 = nI (q_cm (mH M) a b) ∧ (¬ q_cm (mH M) a b = 0 → M_4.1 96 15 = q_sx (mH M) (mX M) a b ∧ M_4.1 96 16 = q_sx (mH M) (mY M) a b ∧ M_4.1 96 17 = q_ms (mH M) (mX M) (mY M) a b) ∧ JF2 (wi M 96 0 0) M_4 := h_5
  refine ar_iload_n (n := 3) C dX12_joined_40 rfl rfl ?_
  refine ar_if_ne (tgt := 51) C dX12_joined_41 (by decide) (fun c_6 => absurd c_6 (by decide)) (fun _ => ?_)
  refine ar_aload_n (n := 0) C dX12_joined_44 rfl rfl ?_
  refine ar_geti C flX12_150 kd_96 dX12_joined_45 ?_
  refine ar_topi (nI (q_cm (mH M) a b)) hJ.1 ?_
  refine ar_goto (tgt := 91) C dX12_joined_48 (by decide) ?_
  exact ar_ireturn C rfl dX12_joined_91 ⟨rfl, rfl, hJ.2.2⟩
set_option maxHeartbeats 4000000 in
set_option maxRecDepth 100000 in
theorem m_joined_1 (M : Mm) {a b : Nat} (ha : a < 8) (hb : b < 8) : AQ mX12_joined 3 [.ref 96, .int (nI a), .int (nI b), .int 1] M (some (.int (if q_cm (mH M) a b = 0 then -1000000 else q_sx (mH M) (mX M) a b))) (JF2 (wi M 96 0 0)) := by
  have hcl : q_cm (mH M) a b ≤ 24 := cm_le _ _ 24
  refine AM_ofF (by decide +kernel) (Nat.le_of_ble_eq_true rfl) (fun X V C _ _ => ?_)
  show AW X V mX12_joined.2.2.1 T0 M 0 0 _ 0 [(0, .ref 96), (1, .int (nI a)), (2, .int (nI b)), (3, .int 1)] []
  refine ar_aload_n (n := 0) C dX12_joined_0 rfl rfl ?_
  refine ar_iconst (v := 0) C dX12_joined_1 (by decide) ?_
  refine ar_puti C flX12_59 kd_96 dX12_joined_2 ?_
  refine ar_iload_n (n := 1) C dX12_joined_5 rfl rfl ?_
  refine cS1 (ar := [.int (nI a)]) (st := []) C lkX12_140 (k_mTrace (wi M 96 0 0) (nI a)) (by decide) rfl (Nat.le_of_ble_eq_true rfl) rfl dX12_joined_6 ?_
  refine ar_if_eqB (tgt := 31) C dX12_joined_9 (by decide) (fun c_1 => False.elim (Bool.noConfusion ((in7 ha).symm.trans c_1))) (fun _ => ?_)
  refine ar_iload_n (n := 2) C dX12_joined_12 rfl rfl ?_
  refine cS1 (ar := [.int (nI b)]) (st := []) C lkX12_140 (k_mTrace (wi M 96 0 0) (nI b)) (by decide) rfl (Nat.le_of_ble_eq_true rfl) rfl dX12_joined_13 ?_
  refine ar_if_eqB (tgt := 31) C dX12_joined_16 (by decide) (fun c_2 => False.elim (Bool.noConfusion ((in7 hb).symm.trans c_2))) (fun _ => ?_)
  refine ar_iload_n (n := 3) C dX12_joined_19 rfl rfl ?_
  refine ar_i2l C dX12_joined_20 ?_
  refine ar_lconst (v := 0) C dX12_joined_21 (by decide) ?_
  refine ar_ldc2 C kcX12_169 dX12_joined_22 ?_
  refine cS1 (ar := [.long ((1 : Int32).toInt64), .long 0, .long 3]) (st := []) C lkX12_69 (k_inI (wi M 96 0 0) 1 0 3 _ _ (by decide) (by decide)) (by decide) rfl (Nat.le_of_ble_eq_true rfl) rfl dX12_joined_25 ?_
  refine ar_if_neB (tgt := 34) C dX12_joined_28 (by decide) (fun _ => ?_) (fun c_3 => False.elim (Bool.noConfusion ((show f_in 1 0 3 = true by decide).symm.trans c_3)))
  refine ar_aload_n (n := 0) C dX12_joined_34 rfl rfl ?_
  refine ar_iload_n (n := 1) C dX12_joined_35 rfl rfl ?_
  refine ar_iload_n (n := 2) C dX12_joined_36 rfl rfl ?_
  refine cV0q (ar := [.int (nI a), .int (nI b)]) (st := []) C lkX12_171 kd_96 (m_join (wi M 96 0 0) ha hb) (by decide) rfl (Nat.le_of_ble_eq_true rfl) rfl dX12_joined_37 (fun M_4 h_5 => ?_)
  have hJ : M_4.1 96 14 = nI (q_cm (mH M) a b) ∧ (¬ q_cm (mH M) a b = 0 → M_4.1 96 15 = q_sx (mH M) (mX M) a b ∧ M_4.1 96 16 = q_sx (mH M) (mY M) a b ∧ M_4.1 96 17 = q_ms (mH M) (mX M) (mY M) a b) ∧ JF2 (wi M 96 0 0) M_4 := h_5
  refine ar_iload_n (n := 3) C dX12_joined_40 rfl rfl ?_
  refine ar_if_ne (tgt := 51) C dX12_joined_41 (by decide) (fun _ => ?_) (fun c_6 => absurd c_6 (by decide))
  refine ar_aload_n (n := 0) C dX12_joined_51 rfl rfl ?_
  refine ar_geti C flX12_150 kd_96 dX12_joined_52 ?_
  refine ar_topi (nI (q_cm (mH M) a b)) hJ.1 ?_
  refine ar_if_ne (tgt := 63) C dX12_joined_55 (by decide) (fun c_7 => ?_) (fun c_7 => ?_)
  · refine ar_iload_n (n := 3) C dX12_joined_63 rfl rfl ?_
    refine ar_iconst (v := 1) C dX12_joined_64 (by decide) ?_
    refine ar_icmp_ne (tgt := 75) C dX12_joined_65 (by decide) (fun c_8 => absurd c_8 (by decide)) (fun _ => ?_)
    refine ar_aload_n (n := 0) C dX12_joined_68 rfl rfl ?_
    refine ar_geti C flX12_163 kd_96 dX12_joined_69 ?_
    refine ar_goto (tgt := 91) C dX12_joined_72 (by decide) ?_
    exact ar_ireturn C rfl dX12_joined_91 ⟨by rw [if_neg (fun z => c_7 (by rw [z]; rfl))]; rw [(hJ.2.1 (fun z => c_7 (by rw [z]; rfl))).1], rfl, hJ.2.2⟩
  · refine ar_ldc C kcX12_149 dX12_joined_58 ?_
    refine ar_goto (tgt := 91) C dX12_joined_60 (by decide) ?_
    exact ar_ireturn C rfl dX12_joined_91 ⟨by rw [if_pos ((nI_eq (a := q_cm (mH M) a b) (b := 0) (by omega) (by decide)).mp c_7)], rfl, hJ.2.2⟩
set_option maxHeartbeats 4000000 in
set_option maxRecDepth 100000 in
theorem m_joined_2 (M : Mm) {a b : Nat} (ha : a < 8) (hb : b < 8) : AQ mX12_joined 3 [.ref 96, .int (nI a), .int (nI b), .int 2] M (some (.int (if q_cm (mH M) a b = 0 then -1000000 else q_sx (mH M) (mY M) a b))) (JF2 (wi M 96 0 0)) := by
  have hcl : q_cm (mH M) a b ≤ 24 := cm_le _ _ 24
  refine AM_ofF (by decide +kernel) (Nat.le_of_ble_eq_true rfl) (fun X V C _ _ => ?_)
  show AW X V mX12_joined.2.2.1 T0 M 0 0 _ 0 [(0, .ref 96), (1, .int (nI a)), (2, .int (nI b)), (3, .int 2)] []
  refine ar_aload_n (n := 0) C dX12_joined_0 rfl rfl ?_
  refine ar_iconst (v := 0) C dX12_joined_1 (by decide) ?_
  refine ar_puti C flX12_59 kd_96 dX12_joined_2 ?_
  refine ar_iload_n (n := 1) C dX12_joined_5 rfl rfl ?_
  refine cS1 (ar := [.int (nI a)]) (st := []) C lkX12_140 (k_mTrace (wi M 96 0 0) (nI a)) (by decide) rfl (Nat.le_of_ble_eq_true rfl) rfl dX12_joined_6 ?_
  refine ar_if_eqB (tgt := 31) C dX12_joined_9 (by decide) (fun c_1 => False.elim (Bool.noConfusion ((in7 ha).symm.trans c_1))) (fun _ => ?_)
  refine ar_iload_n (n := 2) C dX12_joined_12 rfl rfl ?_
  refine cS1 (ar := [.int (nI b)]) (st := []) C lkX12_140 (k_mTrace (wi M 96 0 0) (nI b)) (by decide) rfl (Nat.le_of_ble_eq_true rfl) rfl dX12_joined_13 ?_
  refine ar_if_eqB (tgt := 31) C dX12_joined_16 (by decide) (fun c_2 => False.elim (Bool.noConfusion ((in7 hb).symm.trans c_2))) (fun _ => ?_)
  refine ar_iload_n (n := 3) C dX12_joined_19 rfl rfl ?_
  refine ar_i2l C dX12_joined_20 ?_
  refine ar_lconst (v := 0) C dX12_joined_21 (by decide) ?_
  refine ar_ldc2 C kcX12_169 dX12_joined_22 ?_
  refine cS1 (ar := [.long ((2 : Int32).toInt64), .long 0, .long 3]) (st := []) C lkX12_69 (k_inI (wi M 96 0 0) 2 0 3 _ _ (by decide) (by decide)) (by decide) rfl (Nat.le_of_ble_eq_true rfl) rfl dX12_joined_25 ?_
  refine ar_if_neB (tgt := 34) C dX12_joined_28 (by decide) (fun _ => ?_) (fun c_3 => False.elim (Bool.noConfusion ((show f_in 2 0 3 = true by decide).symm.trans c_3)))
  refine ar_aload_n (n := 0) C dX12_joined_34 rfl rfl ?_
  refine ar_iload_n (n := 1) C dX12_joined_35 rfl rfl ?_
  refine ar_iload_n (n := 2) C dX12_joined_36 rfl rfl ?_
  refine cV0q (ar := [.int (nI a), .int (nI b)]) (st := []) C lkX12_171 kd_96 (m_join (wi M 96 0 0) ha hb) (by decide) rfl (Nat.le_of_ble_eq_true rfl) rfl dX12_joined_37 (fun M_4 h_5 => ?_)
  have hJ : M_4.1 96 14 = nI (q_cm (mH M) a b) ∧ (¬ q_cm (mH M) a b = 0 → M_4.1 96 15 = q_sx (mH M) (mX M) a b ∧ M_4.1 96 16 = q_sx (mH M) (mY M) a b ∧ M_4.1 96 17 = q_ms (mH M) (mX M) (mY M) a b) ∧ JF2 (wi M 96 0 0) M_4 := h_5
  refine ar_iload_n (n := 3) C dX12_joined_40 rfl rfl ?_
  refine ar_if_ne (tgt := 51) C dX12_joined_41 (by decide) (fun _ => ?_) (fun c_6 => absurd c_6 (by decide))
  refine ar_aload_n (n := 0) C dX12_joined_51 rfl rfl ?_
  refine ar_geti C flX12_150 kd_96 dX12_joined_52 ?_
  refine ar_topi (nI (q_cm (mH M) a b)) hJ.1 ?_
  refine ar_if_ne (tgt := 63) C dX12_joined_55 (by decide) (fun c_7 => ?_) (fun c_7 => ?_)
  · refine ar_iload_n (n := 3) C dX12_joined_63 rfl rfl ?_
    refine ar_iconst (v := 1) C dX12_joined_64 (by decide) ?_
    refine ar_icmp_ne (tgt := 75) C dX12_joined_65 (by decide) (fun _ => ?_) (fun c_8 => absurd c_8 (by decide))
    refine ar_iload_n (n := 3) C dX12_joined_75 rfl rfl ?_
    refine ar_iconst (v := 2) C dX12_joined_76 (by decide) ?_
    refine ar_icmp_ne (tgt := 87) C dX12_joined_77 (by decide) (fun c_9 => absurd c_9 (by decide)) (fun _ => ?_)
    refine ar_aload_n (n := 0) C dX12_joined_80 rfl rfl ?_
    refine ar_geti C flX12_166 kd_96 dX12_joined_81 ?_
    refine ar_goto (tgt := 91) C dX12_joined_84 (by decide) ?_
    exact ar_ireturn C rfl dX12_joined_91 ⟨by rw [if_neg (fun z => c_7 (by rw [z]; rfl))]; rw [(hJ.2.1 (fun z => c_7 (by rw [z]; rfl))).2.1], rfl, hJ.2.2⟩
  · refine ar_ldc C kcX12_149 dX12_joined_58 ?_
    refine ar_goto (tgt := 91) C dX12_joined_60 (by decide) ?_
    exact ar_ireturn C rfl dX12_joined_91 ⟨by rw [if_pos ((nI_eq (a := q_cm (mH M) a b) (b := 0) (by omega) (by decide)).mp c_7)], rfl, hJ.2.2⟩
set_option maxHeartbeats 4000000 in
set_option maxRecDepth 100000 in
theorem m_joined_3 (M : Mm) {a b : Nat} (ha : a < 8) (hb : b < 8) : AQ mX12_joined 3 [.ref 96, .int (nI a), .int (nI b), .int 3] M (some (.int (if q_cm (mH M) a b = 0 then -1000000 else q_ms (mH M) (mX M) (mY M) a b))) (JF2 (wi M 96 0 0)) := by
  have hcl : q_cm (mH M) a b ≤ 24 := cm_le _ _ 24
  refine AM_ofF (by decide +kernel) (Nat.le_of_ble_eq_true rfl) (fun X V C _ _ => ?_)
  show AW X V mX12_joined.2.2.1 T0 M 0 0 _ 0 [(0, .ref 96), (1, .int (nI a)), (2, .int (nI b)), (3, .int 3)] []
  refine ar_aload_n (n := 0) C dX12_joined_0 rfl rfl ?_
  refine ar_iconst (v := 0) C dX12_joined_1 (by decide) ?_
  refine ar_puti C flX12_59 kd_96 dX12_joined_2 ?_
  refine ar_iload_n (n := 1) C dX12_joined_5 rfl rfl ?_
  refine cS1 (ar := [.int (nI a)]) (st := []) C lkX12_140 (k_mTrace (wi M 96 0 0) (nI a)) (by decide) rfl (Nat.le_of_ble_eq_true rfl) rfl dX12_joined_6 ?_
  refine ar_if_eqB (tgt := 31) C dX12_joined_9 (by decide) (fun c_1 => False.elim (Bool.noConfusion ((in7 ha).symm.trans c_1))) (fun _ => ?_)
  refine ar_iload_n (n := 2) C dX12_joined_12 rfl rfl ?_
  refine cS1 (ar := [.int (nI b)]) (st := []) C lkX12_140 (k_mTrace (wi M 96 0 0) (nI b)) (by decide) rfl (Nat.le_of_ble_eq_true rfl) rfl dX12_joined_13 ?_
  refine ar_if_eqB (tgt := 31) C dX12_joined_16 (by decide) (fun c_2 => False.elim (Bool.noConfusion ((in7 hb).symm.trans c_2))) (fun _ => ?_)
  refine ar_iload_n (n := 3) C dX12_joined_19 rfl rfl ?_
  refine ar_i2l C dX12_joined_20 ?_
  refine ar_lconst (v := 0) C dX12_joined_21 (by decide) ?_
  refine ar_ldc2 C kcX12_169 dX12_joined_22 ?_
  refine cS1 (ar := [.long ((3 : Int32).toInt64), .long 0, .long 3]) (st := []) C lkX12_69 (k_inI (wi M 96 0 0) 3 0 3 _ _ (by decide) (by decide)) (by decide) rfl (Nat.le_of_ble_eq_true rfl) rfl dX12_joined_25 ?_
  refine ar_if_neB (tgt := 34) C dX12_joined_28 (by decide) (fun _ => ?_) (fun c_3 => False.elim (Bool.noConfusion ((show f_in 3 0 3 = true by decide).symm.trans c_3)))
  refine ar_aload_n (n := 0) C dX12_joined_34 rfl rfl ?_
  refine ar_iload_n (n := 1) C dX12_joined_35 rfl rfl ?_
  refine ar_iload_n (n := 2) C dX12_joined_36 rfl rfl ?_
  refine cV0q (ar := [.int (nI a), .int (nI b)]) (st := []) C lkX12_171 kd_96 (m_join (wi M 96 0 0) ha hb) (by decide) rfl (Nat.le_of_ble_eq_true rfl) rfl dX12_joined_37 (fun M_4 h_5 => ?_)
  have hJ : M_4.1 96 14 = nI (q_cm (mH M) a b) ∧ (¬ q_cm (mH M) a b = 0 → M_4.1 96 15 = q_sx (mH M) (mX M) a b ∧ M_4.1 96 16 = q_sx (mH M) (mY M) a b ∧ M_4.1 96 17 = q_ms (mH M) (mX M) (mY M) a b) ∧ JF2 (wi M 96 0 0) M_4 := h_5
  refine ar_iload_n (n := 3) C dX12_joined_40 rfl rfl ?_
  refine ar_if_ne (tgt := 51) C dX12_joined_41 (by decide) (fun _ => ?_) (fun c_6 => absurd c_6 (by decide))
  refine ar_aload_n (n := 0) C dX12_joined_51 rfl rfl ?_
  refine ar_geti C flX12_150 kd_96 dX12_joined_52 ?_
  refine ar_topi (nI (q_cm (mH M) a b)) hJ.1 ?_
  refine ar_if_ne (tgt := 63) C dX12_joined_55 (by decide) (fun c_7 => ?_) (fun c_7 => ?_)
  · refine ar_iload_n (n := 3) C dX12_joined_63 rfl rfl ?_
    refine ar_iconst (v := 1) C dX12_joined_64 (by decide) ?_
    refine ar_icmp_ne (tgt := 75) C dX12_joined_65 (by decide) (fun _ => ?_) (fun c_8 => absurd c_8 (by decide))
    refine ar_iload_n (n := 3) C dX12_joined_75 rfl rfl ?_
    refine ar_iconst (v := 2) C dX12_joined_76 (by decide) ?_
    refine ar_icmp_ne (tgt := 87) C dX12_joined_77 (by decide) (fun _ => ?_) (fun c_9 => absurd c_9 (by decide))
    refine ar_aload_n (n := 0) C dX12_joined_87 rfl rfl ?_
    refine ar_geti C flX12_153 kd_96 dX12_joined_88 ?_
    exact ar_ireturn C rfl dX12_joined_91 ⟨by rw [if_neg (fun z => c_7 (by rw [z]; rfl))]; rw [(hJ.2.1 (fun z => c_7 (by rw [z]; rfl))).2.2], rfl, hJ.2.2⟩
  · refine ar_ldc C kcX12_149 dX12_joined_58 ?_
    refine ar_goto (tgt := 91) C dX12_joined_60 (by decide) ?_
    exact ar_ireturn C rfl dX12_joined_91 ⟨by rw [if_pos ((nI_eq (a := q_cm (mH M) a b) (b := 0) (by omega) (by decide)).mp c_7)], rfl, hJ.2.2⟩
def GF (M M1 : Mm) : Prop := (∀ j, (j < 14 ∨ 21 < j) → M1.1 96 j = M.1 96 j) ∧ (∀ c, (c < 96 ∨ (96 < c ∧ c < 108) ∨ 110 < c) → M1.1 c = M.1 c)
def GP (M : Mm) (n k : Nat) (M1 : Mm) : Prop := (∀ j, j ≤ k → M1.1 109 j = rg_x (mH M) (mX M) n j) ∧ (∀ j, j ≤ k → M1.1 110 j = rg_x (mH M) (mY M) n j) ∧ M1.1 96 21 = rg_m (mH M) (mX M) (mY M) n k ∧ GF M M1
theorem GF_H {M M1 : Mm} (h : GF M M1) : mH M1 = mH M ∧ mX M1 = mX M ∧ mY M1 = mY M := by
  refine ⟨?_, ?_, ?_⟩
  · funext a t; show M1.1 105 _ = _; rw [h.2 105 (by omega)]
  · funext a t; show M1.1 106 _ = _; rw [h.2 106 (by omega)]
  · funext a t; show M1.1 107 _ = _; rw [h.2 107 (by omega)]
theorem m_joinG (M M1 : Mm) {a b : Nat} (hG : GF M M1) (ha : a < 8) (hb : b < 8) : AQ mX12_join 2 [.ref 96, .int (nI a), .int (nI b)] M1 none (fun M2 => M2.1 96 14 = nI (q_cm (mH M) a b) ∧ (¬ q_cm (mH M) a b = 0 → M2.1 96 15 = q_sx (mH M) (mX M) a b ∧ M2.1 96 16 = q_sx (mH M) (mY M) a b ∧ M2.1 96 17 = q_ms (mH M) (mX M) (mY M) a b) ∧ JF2 M1 M2) := by
  obtain ⟨e1, e2, e3⟩ := GF_H hG
  have k := m_join M1 ha hb
  unfold JQ at k
  rw [e1, e2, e3] at k
  exact k
theorem GP_0 {M : Mm} {n : Nat} : GP M n 0 (wi (wi (wi M 96 21 0) 109 0 0) 110 0 0) := by
  refine ⟨fun j hj => ?_, fun j hj => ?_, ?_, fun j hj => ?_, fun c hc => ?_⟩
  · have : j = 0 := by omega
    subst this; simp [wi, rg_x]
  · have : j = 0 := by omega
    subst this; simp [wi, rg_x]
  · simp [wi, rg_m]
  · have : ¬ j = 21 := by omega
    simp [wi, this]
  · funext z
    have h1 : ¬ c = 96 := by omega
    have h2 : ¬ c = 109 := by omega
    have h3 : ¬ c = 110 := by omega
    simp [wi, h1, h2, h3]
theorem GP_s {M M1 M2 : Mm} {n k : Nat} {u v w : Int32} (hR : GP M n k M1) (hF : JF2 M1 M2) (eu : u = rg_m (mH M) (mX M) (mY M) n (k + 1)) (ev : v = rg_x (mH M) (mX M) n (k + 1)) (ew : w = rg_x (mH M) (mY M) n (k + 1)) : GP M n (k + 1) (wi (wi (wi M2 96 21 u) 109 (k + 1) v) 110 (k + 1) w) := by
  obtain ⟨r1, r2, r3, r4, r5⟩ := hR
  obtain ⟨f1, f2⟩ := hF
  refine ⟨fun j hj => ?_, fun j hj => ?_, ?_, fun j hj => ?_, fun c hc => ?_⟩
  · by_cases e : j = k + 1
    · subst e; simp [wi, ev]
    · simp [wi, e, f2 109 (by decide) (by decide)]; exact r1 j (by omega)
  · by_cases e : j = k + 1
    · subst e; simp [wi, ew]
    · simp [wi, e, f2 110 (by decide) (by decide)]; exact r2 j (by omega)
  · simp [wi, eu]
  · have : ¬ j = 21 := by omega
    simp [wi, this]
    rw [f1 j (by omega), r4 j hj]
  · rw [← r5 c hc, ← f2 c (by omega) (by omega)]
    funext z
    have h1 : ¬ c = 96 := by omega
    have h2 : ¬ c = 109 := by omega
    have h3 : ¬ c = 110 := by omega
    simp [wi, h1, h2, h3]
theorem GF_J {M M1 M2 : Mm} (h : GF M M1) (hF : JF2 M1 M2) : GF M M2 := ⟨fun j hj => by rw [hF.1 j (by omega), h.1 j hj], fun c hc => by rw [hF.2 c (by omega) (by omega), h.2 c hc]⟩
def GE (M : Mm) (n : Nat) (M1 : Mm) : Prop := (rg_ok (mH M) n n = true → GP M n n M1) ∧ GF M M1
def GQ (M : Mm) (n : Nat) (M1 : Mm) : Prop := (∀ j, j ≤ n → M1.1 109 j = rg_x (mH M) (mX M) n j) ∧ (∀ j, j ≤ n → M1.1 110 j = rg_x (mH M) (mY M) n j) ∧ M1.1 96 21 = rg_m (mH M) (mX M) (mY M) n n ∧ ∀ c, 104 < c → c < 108 → M1.1 c = M.1 c
def GW (M : Mm) (n : Nat) (M1 : Mm) : Prop := (rg_ok (mH M) n n = true → GQ M n M1) ∧ GF (wi M 96 0 0) M1
set_option maxHeartbeats 4000000 in
set_option maxRecDepth 100000 in
theorem l_mring {X : Ctx} {V : Vx} {Q : State → Prop} (C : Cx X V mX12_goRound 3) (M : Mm) {n : Nat} (hn2 : 2 ≤ n) (hn8 : n ≤ 8) (k1 : ∀ M1, GP M n n M1 → rg_ok (mH M) n n = true → AW X V mX12_goRound.2.2.1 T0 M1 0 0 Q 102 [(2, .int (nI n)), (0, .ref 96), (1, .int (nI n))] []) (k0 : ∀ M1 als, rg_ok (mH M) n n = false → GF M M1 → AW X V mX12_goRound.2.2.1 T0 M1 0 0 Q 43 als []) : ∀ (m : Nat) (k : Nat) (M1 : Mm), k ≤ n → GP M n k M1 → rg_ok (mH M) n k = true → n - k < m → AW X V mX12_goRound.2.2.1 T0 (M1) 0 0 Q 21 [(2, .int (nI k)), (0, .ref 96), (1, .int (nI n))] [] := by
  intro m
  induction m with
  | zero => intro k M1 _ _ _ h; exact absurd h (Nat.not_lt_zero _)
  | succ m ih =>
    intro k M1 hk0 hR hok hmz
    refine ar_iload_n (n := 0) C dX12_goRound_21 rfl rfl ?_
    refine ar_iload_n (n := 2) C dX12_goRound_22 rfl rfl ?_
    refine ar_icmp_ge (tgt := 102) C dX12_goRound_23 (by decide) (fun c_1 => ?_) (fun c_1 => ?_)
    · have hk : k = n := Nat.le_antisymm hk0 (nat_le c_1 (by omega) (by omega))
      subst hk
      exact k1 M1 hR hok
    · have hk : k < n := nat_nle c_1 (by omega) (by omega)
      refine ar_aload_n (n := 1) C dX12_goRound_26 rfl rfl ?_
      refine ar_iload_n (n := 0) C dX12_goRound_27 rfl rfl ?_
      refine ar_iload_n (n := 0) C dX12_goRound_28 rfl rfl ?_
      refine ar_iconst (v := 1) C dX12_goRound_29 (by decide) ?_
      refine ar_iadd C dX12_goRound_30 ?_
      refine ar_iload_n (n := 2) C dX12_goRound_31 rfl rfl ?_
      refine ar_irem C dX12_goRound_32 (fun z => absurd ((nI_eq (a := n) (b := 0) (by omega) (by decide)).mp z) (by omega)) ?_
      refine ar_topi (nI (nx n k)) (rem_nx n (by omega) hn2 k hk) ?_
      refine cV0q (ar := [.int (nI k), .int (nI (nx n k))]) (st := []) C lkX12_171 kd_96 (m_joinG M M1 hR.2.2.2 (show k < 8 by omega) (nx_lt hn2 hn8 hk)) (by decide) rfl (Nat.le_of_ble_eq_true rfl) rfl dX12_goRound_33 (fun M_2 h_3 => ?_)
      have hcl : q_cm (mH M) k (nx n k) ≤ 24 := cm_le _ _ 24
      refine ar_aload_n (n := 1) C dX12_goRound_36 rfl rfl ?_
      refine ar_geti C flX12_150 kd_96 dX12_goRound_37 ?_
      refine ar_topi (nI (q_cm (mH M) k (nx n k))) h_3.1 ?_
      refine ar_if_ne (tgt := 45) C dX12_goRound_40 (by decide) (fun c_4 => ?_) (fun c_4 => ?_)
      · have hq : ¬ q_cm (mH M) k (nx n k) = 0 := fun z => c_4 (by rw [z]; rfl)
        obtain ⟨j1, j2, j3⟩ := h_3.2.1 hq
        refine ar_aload_n (n := 1) C dX12_goRound_45 rfl rfl ?_
        refine ar_dup C dX12_goRound_46 rfl ?_
        refine ar_geti C flX12_175 kd_96 dX12_goRound_47 ?_
        refine ar_topi (rg_m (mH M) (mX M) (mY M) n k) ((h_3.2.2.1 21 (by decide)).trans hR.2.2.1) ?_
        refine ar_aload_n (n := 1) C dX12_goRound_50 rfl rfl ?_
        refine ar_geti C flX12_153 kd_96 dX12_goRound_51 ?_
        refine ar_topi (q_ms (mH M) (mX M) (mY M) k (nx n k)) j3 ?_
        refine ar_iadd C dX12_goRound_54 ?_
        refine ar_topi (rg_m (mH M) (mX M) (mY M) n (k + 1)) rfl ?_
        refine ar_puti C flX12_175 kd_96 dX12_goRound_55 ?_
        refine ar_aload_n (n := 1) C dX12_goRound_58 rfl rfl ?_
        refine ar_getr C flX12_47 rfl kd_96 rf_96_19 dX12_goRound_59 ?_
        refine ar_iload_n (n := 0) C dX12_goRound_62 rfl rfl ?_
        refine ar_iconst (v := 1) C dX12_goRound_63 (by decide) ?_
        refine ar_iadd C dX12_goRound_64 ?_
        refine ar_aload_n (n := 1) C dX12_goRound_65 rfl rfl ?_
        refine ar_getr C flX12_47 rfl kd_96 rf_96_19 dX12_goRound_66 ?_
        refine ar_iload_n (n := 0) C dX12_goRound_69 rfl rfl ?_
        refine ar_ialdV (j := k) (v := M_2.1 109 k) C kd_109 rfl (by omega) (by simp [wi, wl]; try omega) dX12_goRound_70 ?_
        refine ar_topi (rg_x (mH M) (mX M) n k) ((congrFun (h_3.2.2.2 109 (by decide) (by decide)) k).trans (hR.1 k (Nat.le_refl _))) ?_
        refine ar_aload_n (n := 1) C dX12_goRound_71 rfl rfl ?_
        refine ar_getiV (v := M_2.1 96 15) C flX12_163 kd_96 rfl dX12_goRound_72 ?_
        refine ar_topi (q_sx (mH M) (mX M) k (nx n k)) j1 ?_
        refine ar_iadd C dX12_goRound_75 ?_
        refine ar_topi (rg_x (mH M) (mX M) n (k + 1)) rfl ?_
        refine ar_iast (j := k + 1) C kd_109 (nI_1 k) (by omega) dX12_goRound_76 ?_
        refine ar_aload_n (n := 1) C dX12_goRound_77 rfl rfl ?_
        refine ar_getr C flX12_50 rfl kd_96 rf_96_20 dX12_goRound_78 ?_
        refine ar_iload_n (n := 0) C dX12_goRound_81 rfl rfl ?_
        refine ar_iconst (v := 1) C dX12_goRound_82 (by decide) ?_
        refine ar_iadd C dX12_goRound_83 ?_
        refine ar_aload_n (n := 1) C dX12_goRound_84 rfl rfl ?_
        refine ar_getr C flX12_50 rfl kd_96 rf_96_20 dX12_goRound_85 ?_
        refine ar_iload_n (n := 0) C dX12_goRound_88 rfl rfl ?_
        refine ar_ialdV (j := k) (v := M_2.1 110 k) C kd_110 rfl (by omega) (by simp [wi, wl]; try omega) dX12_goRound_89 ?_
        refine ar_topi (rg_x (mH M) (mY M) n k) ((congrFun (h_3.2.2.2 110 (by decide) (by decide)) k).trans (hR.2.1 k (Nat.le_refl _))) ?_
        refine ar_aload_n (n := 1) C dX12_goRound_90 rfl rfl ?_
        refine ar_getiV (v := M_2.1 96 16) C flX12_166 kd_96 (by simp [wi, wl]; try omega) dX12_goRound_91 ?_
        refine ar_topi (q_sx (mH M) (mY M) k (nx n k)) j2 ?_
        refine ar_iadd C dX12_goRound_94 ?_
        refine ar_topi (rg_x (mH M) (mY M) n (k + 1)) rfl ?_
        refine ar_iast (j := k + 1) C kd_110 (nI_1 k) (by omega) dX12_goRound_95 ?_
        refine ar_iinc (n := 0) (v := (nI (k + 1))) (als' := [(2, .int (nI (k + 1))), (0, .ref 96), (1, .int (nI n))]) C dX12_goRound_96 rfl (nI_1 _) (by decide) rfl ?_
        refine ar_goto (tgt := 21) C dX12_goRound_99 (by decide) ?_
        refine ih (k + 1) _ (by omega) (GP_s hR h_3.2.2 rfl rfl rfl) ?_ (by omega)
        simp only [rg_ok]
        rw [hok]
        simp [hq]
      · refine k0 _ _ (rg_no _ _ (k + 1) ?_ n (by omega)) (GF_J hR.2.2.2 h_3.2.2)
        simp only [rg_ok]
        rw [(nI_eq (a := q_cm (mH M) k (nx n k)) (b := 0) (by omega) (by decide)).mp c_4]
        simp
set_option maxHeartbeats 4000000 in
set_option maxRecDepth 100000 in
theorem m_goRound (M : Mm) {n : Nat} (hn2 : 2 ≤ n) (hn8 : n ≤ 8) : AQ mX12_goRound 3 [.ref 96, .int (nI n)] M (some (.int (bI (rg_ok (mH M) n n)))) (GE M n) := by
  refine AM_ofF (by decide +kernel) (Nat.le_of_ble_eq_true rfl) (fun X V C _ _ => ?_)
  show AW X V mX12_goRound.2.2.1 T0 M 0 0 _ 0 [(0, .ref 96), (1, .int (nI n))] []
  refine ar_aload_n (n := 0) C dX12_goRound_0 rfl rfl ?_
  refine ar_iconst (v := 0) C dX12_goRound_1 (by decide) ?_
  refine ar_puti C flX12_175 kd_96 dX12_goRound_2 ?_
  refine ar_aload_n (n := 0) C dX12_goRound_5 rfl rfl ?_
  refine ar_getr C flX12_47 rfl kd_96 rf_96_19 dX12_goRound_6 ?_
  refine ar_iconst (v := 0) C dX12_goRound_9 (by decide) ?_
  refine ar_iconst (v := 0) C dX12_goRound_10 (by decide) ?_
  refine ar_iast (j := 0) C kd_109 (by decide) (by decide) dX12_goRound_11 ?_
  refine ar_aload_n (n := 0) C dX12_goRound_12 rfl rfl ?_
  refine ar_getr C flX12_50 rfl kd_96 rf_96_20 dX12_goRound_13 ?_
  refine ar_iconst (v := 0) C dX12_goRound_16 (by decide) ?_
  refine ar_iconst (v := 0) C dX12_goRound_17 (by decide) ?_
  refine ar_iast (j := 0) C kd_110 (by decide) (by decide) dX12_goRound_18 ?_
  refine ar_iconst (v := 0) C dX12_goRound_19 (by decide) ?_
  refine ar_istore_n (als' := [(2, .int 0), (0, .ref 96), (1, .int (nI n))]) C dX12_goRound_20 rfl (by decide) rfl ?_
  refine l_mring C M hn2 hn8 (fun M1 h ho => ?_) (fun M1 als hno hF => ?_) (n + 1) 0 _ (by omega) GP_0 rfl (by omega)
  · refine ar_iconst (v := 1) C dX12_goRound_102 (by decide) ?_
    exact ar_zreturn C rfl rfl dX12_goRound_103 ⟨by rw [ho]; rfl, rfl, fun _ => h, h.2.2.2⟩
  · refine ar_iconst (v := 0) C dX12_goRound_43 (by decide) ?_
    exact ar_zreturn C rfl rfl dX12_goRound_44 ⟨by rw [hno]; rfl, rfl, fun q => absurd q (by rw [hno]; decide), hF⟩
theorem wi_c {M : Mm} {k j c : Nat} {v : Int32} (h : c ≠ k) : (wi M k j v).1 c = M.1 c := by funext b; simp [wi, h]
theorem m_goRoundW (M : Mm) {n : Nat} (hn2 : 2 ≤ n) (hn8 : n ≤ 8) : AQ mX12_goRound 3 [.ref 96, .int (nI n)] (wi M 96 0 0) (some (.int (bI (rg_ok (mH M) n n)))) (GW M n) :=
  AQ_wk (m_goRound (wi M 96 0 0) hn2 hn8) (fun M1 h => ⟨fun q => ⟨(h.1 q).1, (h.1 q).2.1, (h.1 q).2.2.1, fun c c1 c2 => by rw [(h.1 q).2.2.2.2 c (by omega)]; exact wi_c (by omega)⟩, h.2⟩)
set_option maxHeartbeats 4000000 in
set_option maxRecDepth 100000 in
theorem m_round_bad (M : Mm) (n w : Int32)  (hbad : (f_in n 2 8 && f_in w 0 2) = false) : AX mX12_round 4 [.ref 96, .int n, .int w] M (some (.int (-1000001))) (wi M 96 0 0) := by
  refine AM_ofF (by decide +kernel) (Nat.le_of_ble_eq_true rfl) (fun X V C _ _ => ?_)
  show AW X V mX12_round.2.2.1 T0 M 0 0 _ 0 [(0, .ref 96), (1, .int n), (2, .int w)] []
  refine ar_aload_n (n := 0) C dX12_round_0 rfl rfl ?_
  refine ar_iconst (v := 0) C dX12_round_1 (by decide) ?_
  refine ar_puti C flX12_59 kd_96 dX12_round_2 ?_
  refine ar_iload_n (n := 1) C dX12_round_5 rfl rfl ?_
  refine ar_i2l C dX12_round_6 ?_
  refine ar_ldc2 C kcX12_77 dX12_round_7 ?_
  refine ar_ldc2 C kcX12_88 dX12_round_10 ?_
  refine cS1 (ar := [.long n.toInt64, .long 2, .long 8]) (st := []) C lkX12_69 (k_inI (wi M 96 0 0) n 2 8 _ _ (by decide) (by decide)) (by decide) rfl (Nat.le_of_ble_eq_true rfl) rfl dX12_round_13 ?_
  refine ar_if_eqB (tgt := 31) C dX12_round_16 (by decide) (fun c_1 => ?_) (fun c_1 => ?_)
  · refine ar_ldc C kcX12_79 dX12_round_31 ?_
    exact ar_ireturn C rfl dX12_round_33 ⟨rfl, rfl, rfl⟩
  · refine ar_iload_n (n := 2) C dX12_round_19 rfl rfl ?_
    refine ar_i2l C dX12_round_20 ?_
    refine ar_lconst (v := 0) C dX12_round_21 (by decide) ?_
    refine ar_ldc2 C kcX12_77 dX12_round_22 ?_
    refine cS1 (ar := [.long w.toInt64, .long 0, .long 2]) (st := []) C lkX12_69 (k_inI (wi M 96 0 0) w 0 2 _ _ (by decide) (by decide)) (by decide) rfl (Nat.le_of_ble_eq_true rfl) rfl dX12_round_25 ?_
    refine ar_if_neB (tgt := 34) C dX12_round_28 (by decide) (fun c_2 => ?_) (fun c_2 => ?_)
    · exact absurd hbad (by first | (rw [c_1]; decide) | simp [*])
    · refine ar_ldc C kcX12_79 dX12_round_31 ?_
      exact ar_ireturn C rfl dX12_round_33 ⟨rfl, rfl, rfl⟩
set_option maxHeartbeats 4000000 in
set_option maxRecDepth 100000 in
theorem m_round_0 (M : Mm) {n : Nat} (hn2 : 2 ≤ n) (hn8 : n ≤ 8) : AQ mX12_round 4 [.ref 96, .int (nI n), .int 0] M (some (.int (if rg_ok (mH M) n n = true then rg_x (mH M) (mX M) n n else -1000000))) (GF (wi M 96 0 0)) := by
  refine AM_ofF (by decide +kernel) (Nat.le_of_ble_eq_true rfl) (fun X V C _ _ => ?_)
  show AW X V mX12_round.2.2.1 T0 M 0 0 _ 0 [(0, .ref 96), (1, .int (nI n)), (2, .int 0)] []
  refine ar_aload_n (n := 0) C dX12_round_0 rfl rfl ?_
  refine ar_iconst (v := 0) C dX12_round_1 (by decide) ?_
  refine ar_puti C flX12_59 kd_96 dX12_round_2 ?_
  refine ar_iload_n (n := 1) C dX12_round_5 rfl rfl ?_
  refine ar_i2l C dX12_round_6 ?_
  refine ar_ldc2 C kcX12_77 dX12_round_7 ?_
  refine ar_ldc2 C kcX12_88 dX12_round_10 ?_
  refine cS1 (ar := [.long ((nI n).toInt64), .long 2, .long 8]) (st := []) C lkX12_69 (k_inI (wi M 96 0 0) (nI n) 2 8 _ _ (by decide) (by decide)) (by decide) rfl (Nat.le_of_ble_eq_true rfl) rfl dX12_round_13 ?_
  refine ar_if_eqB (tgt := 31) C dX12_round_16 (by decide) (fun c_1 => False.elim (Bool.noConfusion ((in28 hn2 hn8).symm.trans c_1))) (fun _ => ?_)
  refine ar_iload_n (n := 2) C dX12_round_19 rfl rfl ?_
  refine ar_i2l C dX12_round_20 ?_
  refine ar_lconst (v := 0) C dX12_round_21 (by decide) ?_
  refine ar_ldc2 C kcX12_77 dX12_round_22 ?_
  refine cS1 (ar := [.long ((0 : Int32).toInt64), .long 0, .long 2]) (st := []) C lkX12_69 (k_inI (wi M 96 0 0) 0 0 2 _ _ (by decide) (by decide)) (by decide) rfl (Nat.le_of_ble_eq_true rfl) rfl dX12_round_25 ?_
  refine ar_if_neB (tgt := 34) C dX12_round_28 (by decide) (fun _ => ?_) (fun c_2 => False.elim (Bool.noConfusion ((show f_in 0 0 2 = true by decide).symm.trans c_2)))
  refine ar_aload_n (n := 0) C dX12_round_34 rfl rfl ?_
  refine ar_iload_n (n := 1) C dX12_round_35 rfl rfl ?_
  refine cV1q (ar := [.int (nI n)]) (st := []) C lkX12_178 kd_96 (m_goRoundW M hn2 hn8) (by decide) rfl (Nat.le_of_ble_eq_true rfl) rfl dX12_round_36 (fun M_3 h_4 => ?_)
  refine ar_if_neB (tgt := 47) C dX12_round_39 (by decide) (fun c_5 => ?_) (fun c_5 => ?_)
  · refine ar_iload_n (n := 2) C dX12_round_47 rfl rfl ?_
    refine ar_if_ne (tgt := 60) C dX12_round_48 (by decide) (fun c_6 => absurd c_6 (by decide)) (fun _ => ?_)
    refine ar_aload_n (n := 0) C dX12_round_51 rfl rfl ?_
    refine ar_getr C flX12_47 rfl kd_96 rf_96_19 dX12_round_52 ?_
    refine ar_iload_n (n := 1) C dX12_round_55 rfl rfl ?_
    refine ar_iald (j := n) C kd_109 rfl (show n < 9 by omega) dX12_round_56 ?_
    refine ar_goto (tgt := 78) C dX12_round_57 (by decide) ?_
    exact ar_ireturn C rfl dX12_round_78 ⟨by rw [if_pos c_5, (h_4.1 c_5).1 n (Nat.le_refl _)], rfl, h_4.2⟩
  · refine ar_ldc C kcX12_149 dX12_round_42 ?_
    refine ar_goto (tgt := 78) C dX12_round_44 (by decide) ?_
    exact ar_ireturn C rfl dX12_round_78 ⟨by rw [if_neg (by rw [c_5]; decide)], rfl, h_4.2⟩
set_option maxHeartbeats 4000000 in
set_option maxRecDepth 100000 in
theorem m_round_1 (M : Mm) {n : Nat} (hn2 : 2 ≤ n) (hn8 : n ≤ 8) : AQ mX12_round 4 [.ref 96, .int (nI n), .int 1] M (some (.int (if rg_ok (mH M) n n = true then rg_x (mH M) (mY M) n n else -1000000))) (GF (wi M 96 0 0)) := by
  refine AM_ofF (by decide +kernel) (Nat.le_of_ble_eq_true rfl) (fun X V C _ _ => ?_)
  show AW X V mX12_round.2.2.1 T0 M 0 0 _ 0 [(0, .ref 96), (1, .int (nI n)), (2, .int 1)] []
  refine ar_aload_n (n := 0) C dX12_round_0 rfl rfl ?_
  refine ar_iconst (v := 0) C dX12_round_1 (by decide) ?_
  refine ar_puti C flX12_59 kd_96 dX12_round_2 ?_
  refine ar_iload_n (n := 1) C dX12_round_5 rfl rfl ?_
  refine ar_i2l C dX12_round_6 ?_
  refine ar_ldc2 C kcX12_77 dX12_round_7 ?_
  refine ar_ldc2 C kcX12_88 dX12_round_10 ?_
  refine cS1 (ar := [.long ((nI n).toInt64), .long 2, .long 8]) (st := []) C lkX12_69 (k_inI (wi M 96 0 0) (nI n) 2 8 _ _ (by decide) (by decide)) (by decide) rfl (Nat.le_of_ble_eq_true rfl) rfl dX12_round_13 ?_
  refine ar_if_eqB (tgt := 31) C dX12_round_16 (by decide) (fun c_1 => False.elim (Bool.noConfusion ((in28 hn2 hn8).symm.trans c_1))) (fun _ => ?_)
  refine ar_iload_n (n := 2) C dX12_round_19 rfl rfl ?_
  refine ar_i2l C dX12_round_20 ?_
  refine ar_lconst (v := 0) C dX12_round_21 (by decide) ?_
  refine ar_ldc2 C kcX12_77 dX12_round_22 ?_
  refine cS1 (ar := [.long ((1 : Int32).toInt64), .long 0, .long 2]) (st := []) C lkX12_69 (k_inI (wi M 96 0 0) 1 0 2 _ _ (by decide) (by decide)) (by decide) rfl (Nat.le_of_ble_eq_true rfl) rfl dX12_round_25 ?_
  refine ar_if_neB (tgt := 34) C dX12_round_28 (by decide) (fun _ => ?_) (fun c_2 => False.elim (Bool.noConfusion ((show f_in 1 0 2 = true by decide).symm.trans c_2)))
  refine ar_aload_n (n := 0) C dX12_round_34 rfl rfl ?_
  refine ar_iload_n (n := 1) C dX12_round_35 rfl rfl ?_
  refine cV1q (ar := [.int (nI n)]) (st := []) C lkX12_178 kd_96 (m_goRoundW M hn2 hn8) (by decide) rfl (Nat.le_of_ble_eq_true rfl) rfl dX12_round_36 (fun M_3 h_4 => ?_)
  refine ar_if_neB (tgt := 47) C dX12_round_39 (by decide) (fun c_5 => ?_) (fun c_5 => ?_)
  · refine ar_iload_n (n := 2) C dX12_round_47 rfl rfl ?_
    refine ar_if_ne (tgt := 60) C dX12_round_48 (by decide) (fun _ => ?_) (fun c_6 => absurd c_6 (by decide))
    refine ar_iload_n (n := 2) C dX12_round_60 rfl rfl ?_
    refine ar_iconst (v := 1) C dX12_round_61 (by decide) ?_
    refine ar_icmp_ne (tgt := 74) C dX12_round_62 (by decide) (fun c_7 => absurd c_7 (by decide)) (fun _ => ?_)
    refine ar_aload_n (n := 0) C dX12_round_65 rfl rfl ?_
    refine ar_getr C flX12_50 rfl kd_96 rf_96_20 dX12_round_66 ?_
    refine ar_iload_n (n := 1) C dX12_round_69 rfl rfl ?_
    refine ar_iald (j := n) C kd_110 rfl (show n < 9 by omega) dX12_round_70 ?_
    refine ar_goto (tgt := 78) C dX12_round_71 (by decide) ?_
    exact ar_ireturn C rfl dX12_round_78 ⟨by rw [if_pos c_5, (h_4.1 c_5).2.1 n (Nat.le_refl _)], rfl, h_4.2⟩
  · refine ar_ldc C kcX12_149 dX12_round_42 ?_
    refine ar_goto (tgt := 78) C dX12_round_44 (by decide) ?_
    exact ar_ireturn C rfl dX12_round_78 ⟨by rw [if_neg (by rw [c_5]; decide)], rfl, h_4.2⟩
set_option maxHeartbeats 4000000 in
set_option maxRecDepth 100000 in
theorem m_round_2 (M : Mm) {n : Nat} (hn2 : 2 ≤ n) (hn8 : n ≤ 8) : AQ mX12_round 4 [.ref 96, .int (nI n), .int 2] M (some (.int (if rg_ok (mH M) n n = true then rg_m (mH M) (mX M) (mY M) n n else -1000000))) (GF (wi M 96 0 0)) := by
  refine AM_ofF (by decide +kernel) (Nat.le_of_ble_eq_true rfl) (fun X V C _ _ => ?_)
  show AW X V mX12_round.2.2.1 T0 M 0 0 _ 0 [(0, .ref 96), (1, .int (nI n)), (2, .int 2)] []
  refine ar_aload_n (n := 0) C dX12_round_0 rfl rfl ?_
  refine ar_iconst (v := 0) C dX12_round_1 (by decide) ?_
  refine ar_puti C flX12_59 kd_96 dX12_round_2 ?_
  refine ar_iload_n (n := 1) C dX12_round_5 rfl rfl ?_
  refine ar_i2l C dX12_round_6 ?_
  refine ar_ldc2 C kcX12_77 dX12_round_7 ?_
  refine ar_ldc2 C kcX12_88 dX12_round_10 ?_
  refine cS1 (ar := [.long ((nI n).toInt64), .long 2, .long 8]) (st := []) C lkX12_69 (k_inI (wi M 96 0 0) (nI n) 2 8 _ _ (by decide) (by decide)) (by decide) rfl (Nat.le_of_ble_eq_true rfl) rfl dX12_round_13 ?_
  refine ar_if_eqB (tgt := 31) C dX12_round_16 (by decide) (fun c_1 => False.elim (Bool.noConfusion ((in28 hn2 hn8).symm.trans c_1))) (fun _ => ?_)
  refine ar_iload_n (n := 2) C dX12_round_19 rfl rfl ?_
  refine ar_i2l C dX12_round_20 ?_
  refine ar_lconst (v := 0) C dX12_round_21 (by decide) ?_
  refine ar_ldc2 C kcX12_77 dX12_round_22 ?_
  refine cS1 (ar := [.long ((2 : Int32).toInt64), .long 0, .long 2]) (st := []) C lkX12_69 (k_inI (wi M 96 0 0) 2 0 2 _ _ (by decide) (by decide)) (by decide) rfl (Nat.le_of_ble_eq_true rfl) rfl dX12_round_25 ?_
  refine ar_if_neB (tgt := 34) C dX12_round_28 (by decide) (fun _ => ?_) (fun c_2 => False.elim (Bool.noConfusion ((show f_in 2 0 2 = true by decide).symm.trans c_2)))
  refine ar_aload_n (n := 0) C dX12_round_34 rfl rfl ?_
  refine ar_iload_n (n := 1) C dX12_round_35 rfl rfl ?_
  refine cV1q (ar := [.int (nI n)]) (st := []) C lkX12_178 kd_96 (m_goRoundW M hn2 hn8) (by decide) rfl (Nat.le_of_ble_eq_true rfl) rfl dX12_round_36 (fun M_3 h_4 => ?_)
  refine ar_if_neB (tgt := 47) C dX12_round_39 (by decide) (fun c_5 => ?_) (fun c_5 => ?_)
  · refine ar_iload_n (n := 2) C dX12_round_47 rfl rfl ?_
    refine ar_if_ne (tgt := 60) C dX12_round_48 (by decide) (fun _ => ?_) (fun c_6 => absurd c_6 (by decide))
    refine ar_iload_n (n := 2) C dX12_round_60 rfl rfl ?_
    refine ar_iconst (v := 1) C dX12_round_61 (by decide) ?_
    refine ar_icmp_ne (tgt := 74) C dX12_round_62 (by decide) (fun _ => ?_) (fun c_7 => absurd c_7 (by decide))
    refine ar_aload_n (n := 0) C dX12_round_74 rfl rfl ?_
    refine ar_geti C flX12_175 kd_96 dX12_round_75 ?_
    exact ar_ireturn C rfl dX12_round_78 ⟨by rw [if_pos c_5, (h_4.1 c_5).2.2.1], rfl, h_4.2⟩
  · refine ar_ldc C kcX12_149 dX12_round_42 ?_
    refine ar_goto (tgt := 78) C dX12_round_44 (by decide) ?_
    exact ar_ireturn C rfl dX12_round_78 ⟨by rw [if_neg (by rw [c_5]; decide)], rfl, h_4.2⟩
set_option maxHeartbeats 4000000 in
set_option maxRecDepth 100000 in
theorem m_around_bad (M : Mm) (n k w : Int32)  (hbad : (f_in n 2 8 && f_in k 0 23 && f_in w 0 1) = false) : AX mX12_around 4 [.ref 96, .int n, .int k, .int w] M (some (.int (-1000001))) (wi M 96 0 0) := by
  refine AM_ofF (by decide +kernel) (Nat.le_of_ble_eq_true rfl) (fun X V C _ _ => ?_)
  show AW X V mX12_around.2.2.1 T0 M 0 0 _ 0 [(0, .ref 96), (1, .int n), (2, .int k), (3, .int w)] []
  refine ar_aload_n (n := 0) C dX12_around_0 rfl rfl ?_
  refine ar_iconst (v := 0) C dX12_around_1 (by decide) ?_
  refine ar_puti C flX12_59 kd_96 dX12_around_2 ?_
  refine ar_iload_n (n := 1) C dX12_around_5 rfl rfl ?_
  refine ar_i2l C dX12_around_6 ?_
  refine ar_ldc2 C kcX12_77 dX12_around_7 ?_
  refine ar_ldc2 C kcX12_88 dX12_around_10 ?_
  refine cS1 (ar := [.long n.toInt64, .long 2, .long 8]) (st := []) C lkX12_69 (k_inI (wi M 96 0 0) n 2 8 _ _ (by decide) (by decide)) (by decide) rfl (Nat.le_of_ble_eq_true rfl) rfl dX12_around_13 ?_
  refine ar_if_eqB (tgt := 36) C dX12_around_16 (by decide) (fun c_1 => ?_) (fun c_1 => ?_)
  · refine ar_ldc C kcX12_79 dX12_around_36 ?_
    exact ar_ireturn C rfl dX12_around_38 ⟨rfl, rfl, rfl⟩
  · refine ar_iload_n (n := 2) C dX12_around_19 rfl rfl ?_
    refine cS1 (ar := [.int k]) (st := []) C lkX12_143 (k_mNumber (wi M 96 0 0) k) (by decide) rfl (Nat.le_of_ble_eq_true rfl) rfl dX12_around_20 ?_
    refine ar_if_eqB (tgt := 36) C dX12_around_23 (by decide) (fun c_2 => ?_) (fun c_2 => ?_)
    · refine ar_ldc C kcX12_79 dX12_around_36 ?_
      exact ar_ireturn C rfl dX12_around_38 ⟨rfl, rfl, rfl⟩
    · refine ar_iload_n (n := 3) C dX12_around_26 rfl rfl ?_
      refine ar_i2l C dX12_around_27 ?_
      refine ar_lconst (v := 0) C dX12_around_28 (by decide) ?_
      refine ar_lconst (v := 1) C dX12_around_29 (by decide) ?_
      refine cS1 (ar := [.long w.toInt64, .long 0, .long 1]) (st := []) C lkX12_69 (k_inI (wi M 96 0 0) w 0 1 _ _ (by decide) (by decide)) (by decide) rfl (Nat.le_of_ble_eq_true rfl) rfl dX12_around_30 ?_
      refine ar_if_neB (tgt := 39) C dX12_around_33 (by decide) (fun c_3 => ?_) (fun c_3 => ?_)
      · exact absurd hbad (by first | (rw [c_1]; decide) | simp [*])
      · refine ar_ldc C kcX12_79 dX12_around_36 ?_
        exact ar_ireturn C rfl dX12_around_38 ⟨rfl, rfl, rfl⟩
set_option maxHeartbeats 4000000 in
set_option maxRecDepth 100000 in
theorem l_maround_0 {X : Ctx} {V : Vx} {Q : State → Prop} (C : Cx X V mX12_around 4) (M M1 : Mm) {n q : Nat} (hn2 : 2 ≤ n) (hn8 : n ≤ 8) (hq : q < 24) (hR : GQ M n M1) (kk : AW X V mX12_around.2.2.1 T0 M1 0 0 Q 159 [(6, .int (nI n)), (5, .int (as_s (mH M) (mX M) n q n)), (4, .int (nI (as_c (mH M) q n))), (0, .ref 96), (1, .int (nI n)), (2, .int (nI q)), (3, .int 0)] []) : ∀ (m : Nat) (k : Nat), k ≤ n → n - k < m → AW X V mX12_around.2.2.1 T0 (M1) 0 0 Q 59 [(6, .int (nI k)), (5, .int (as_s (mH M) (mX M) n q k)), (4, .int (nI (as_c (mH M) q k))), (0, .ref 96), (1, .int (nI n)), (2, .int (nI q)), (3, .int 0)] [] := by
  intro m
  induction m with
  | zero => intro k _ h; exact absurd h (Nat.not_lt_zero _)
  | succ m ih =>
    intro k hk0 hmz
    refine ar_iload (n := 0) C dX12_around_59 rfl ?_
    refine ar_iload_n (n := 4) C dX12_around_61 rfl rfl ?_
    refine ar_icmp_ge (tgt := 159) C dX12_around_62 (by decide) (fun c_1 => ?_) (fun c_1 => ?_)
    · have hk : k = n := Nat.le_antisymm hk0 (nat_le c_1 (by omega) (by omega))
      subst hk
      exact kk
    · have hk : k < n := nat_nle c_1 (by omega) (by omega)
      refine ar_bipush (v := 24) C dX12_around_65 (by decide) ?_
      refine ar_iload (n := 0) C dX12_around_67 rfl ?_
      refine ar_imul C dX12_around_69 ?_
      refine ar_iload_n (n := 5) C dX12_around_70 rfl rfl ?_
      refine ar_iadd C dX12_around_71 ?_
      refine ar_topi (nI (24 * k + q)) (ix24 k q) ?_
      refine ar_istore (als' := [(7, .int (nI (24 * k + q))), (6, .int (nI k)), (5, .int (as_s (mH M) (mX M) n q k)), (4, .int (nI (as_c (mH M) q k))), (0, .ref 96), (1, .int (nI n)), (2, .int (nI q)), (3, .int 0)]) C dX12_around_72 (by decide) rfl ?_
      refine ar_aload_n (n := 4) C dX12_around_74 rfl rfl ?_
      refine ar_getr C flX12_34 rfl kd_96 rf_96_11 dX12_around_75 ?_
      refine ar_iload (n := 0) C dX12_around_78 rfl ?_
      refine ar_zald (j := 24 * k + q) C kd_105 rfl (by omega) dX12_around_80 ?_
      refine ar_topi (mH M k q) (congrFun (hR.2.2.2 105 (by omega) (by omega)) (24 * k + q)) ?_
      refine ar_if_eq (tgt := 153) C dX12_around_81 (by decide) (fun c_2 => ?_) (fun c_2 => ?_)
      · refine ar_iinc (n := 1) (v := (nI (k + 1))) (als' := [(6, .int (nI (k + 1))), (7, .int (nI (24 * k + q))), (5, .int (as_s (mH M) (mX M) n q k)), (4, .int (nI (as_c (mH M) q k))), (0, .ref 96), (1, .int (nI n)), (2, .int (nI q)), (3, .int 0)]) C dX12_around_153 rfl (nI_1 _) (by decide) rfl ?_
        refine ar_goto (tgt := 59) C dX12_around_156 (by decide) ?_
        refine ar_sub [0, 2, 3, 4, 5, 6, 7] rfl ?_
        have h := ih (k + 1) (by omega) (by omega)
        rw [show as_c (mH M) q (k + 1) = as_c (mH M) q k from cntB_n (by simp; exact c_2)] at h
        rw [show as_s (mH M) (mX M) n q (k + 1) = _ from by simp only [as_s]; rw [if_pos c_2]] at h
        exact h
      · refine ar_iinc (n := 3) (v := (nI (as_c (mH M) q k + 1))) (als' := [(4, .int (nI (as_c (mH M) q k + 1))), (7, .int (nI (24 * k + q))), (6, .int (nI k)), (5, .int (as_s (mH M) (mX M) n q k)), (0, .ref 96), (1, .int (nI n)), (2, .int (nI q)), (3, .int 0)]) C dX12_around_84 rfl (nI_1 _) (by decide) rfl ?_
        refine ar_iload (n := 3) C dX12_around_87 rfl ?_
        refine ar_iload_n (n := 7) C dX12_around_89 rfl rfl ?_
        refine ar_if_ne (tgt := 123) C dX12_around_90 (by decide) (fun c_3 => absurd c_3 (by decide)) (fun _ => ?_)
        refine ar_aload_n (n := 4) C dX12_around_93 rfl rfl ?_
        refine ar_getr C flX12_38 rfl kd_96 rf_96_12 dX12_around_94 ?_
        refine ar_iload (n := 1) C dX12_around_97 rfl ?_
        refine ar_iald (j := 24 * k + q) C kd_106 rfl (by omega) dX12_around_99 ?_
        refine ar_topi (mX M k q) (congrFun (hR.2.2.2 106 (by omega) (by omega)) (24 * k + q)) ?_
        refine ar_aload_n (n := 4) C dX12_around_100 rfl rfl ?_
        refine ar_getr C flX12_47 rfl kd_96 rf_96_19 dX12_around_101 ?_
        refine ar_iload (n := 2) C dX12_around_104 rfl ?_
        refine ar_iald (j := k) C kd_109 rfl (by omega) dX12_around_106 ?_
        refine ar_topi (rg_x (mH M) (mX M) n k) (hR.1 k (by omega)) ?_
        refine ar_iadd C dX12_around_107 ?_
        refine ar_aload_n (n := 4) C dX12_around_108 rfl rfl ?_
        refine ar_getr C flX12_47 rfl kd_96 rf_96_19 dX12_around_109 ?_
        refine ar_iload_n (n := 5) C dX12_around_112 rfl rfl ?_
        refine ar_iald (j := n) C kd_109 rfl (by omega) dX12_around_113 ?_
        refine ar_topi (rg_x (mH M) (mX M) n n) (hR.1 n (Nat.le_refl _)) ?_
        refine ar_iload (n := 2) C dX12_around_114 rfl ?_
        refine ar_imul C dX12_around_116 ?_
        refine ar_iload_n (n := 5) C dX12_around_117 rfl rfl ?_
        refine ar_idiv C dX12_around_118 (fun z => absurd ((nI_eq (a := n) (b := 0) (by omega) (by decide)).mp z) (by omega)) ?_
        refine ar_isub C dX12_around_119 ?_
        refine ar_goto (tgt := 150) C dX12_around_120 (by decide) ?_
        refine ar_topi (mX M k q + (rg_x (mH M) (mX M) n k - f_by (rg_x (mH M) (mX M) n n * nI k) (nI n))) (by rw [by_ne (fun z => absurd ((nI_eq (a := n) (b := 0) (by omega) (by decide)).mp z) (by omega)), Int32.sub_eq_add_neg, Int32.sub_eq_add_neg, Int32.add_assoc]) ?_
        refine ar_iadd C dX12_around_150 ?_
        refine ar_istore (als' := [(5, .int ((as_s (mH M) (mX M) n q k) + (mX M k q + (rg_x (mH M) (mX M) n k - f_by (rg_x (mH M) (mX M) n n * nI k) (nI n))))), (4, .int (nI (as_c (mH M) q k + 1))), (7, .int (nI (24 * k + q))), (6, .int (nI k)), (0, .ref 96), (1, .int (nI n)), (2, .int (nI q)), (3, .int 0)]) C dX12_around_151 (by decide) rfl ?_
        refine ar_iinc (n := 3) (v := (nI (k + 1))) (als' := [(6, .int (nI (k + 1))), (5, .int ((as_s (mH M) (mX M) n q k) + (mX M k q + (rg_x (mH M) (mX M) n k - f_by (rg_x (mH M) (mX M) n n * nI k) (nI n))))), (4, .int (nI (as_c (mH M) q k + 1))), (7, .int (nI (24 * k + q))), (0, .ref 96), (1, .int (nI n)), (2, .int (nI q)), (3, .int 0)]) C dX12_around_153 rfl (nI_1 _) (by decide) rfl ?_
        refine ar_goto (tgt := 59) C dX12_around_156 (by decide) ?_
        refine ar_sub [0, 1, 2, 4, 5, 6, 7] rfl ?_
        have h := ih (k + 1) (by omega) (by omega)
        rw [show as_c (mH M) q (k + 1) = as_c (mH M) q k + 1 from cntB_y (by simp; exact c_2)] at h
        rw [show as_s (mH M) (mX M) n q (k + 1) = _ from by simp only [as_s]; rw [if_neg c_2]] at h
        exact h
set_option maxHeartbeats 4000000 in
set_option maxRecDepth 100000 in
theorem m_around_0 (M : Mm) {n : Nat} (hn2 : 2 ≤ n) (hn8 : n ≤ 8) {q : Nat} (hq : q < 24) : AQ mX12_around 4 [.ref 96, .int (nI n), .int (nI q), .int 0] M (some (.int (if rg_ok (mH M) n n = true then (if as_c (mH M) q n = 0 then -1000000 else f_by (as_s (mH M) (mX M) n q n) (nI (as_c (mH M) q n))) else -1000000))) (GF (wi M 96 0 0)) := by
  refine AM_ofF (by decide +kernel) (Nat.le_of_ble_eq_true rfl) (fun X V C _ _ => ?_)
  show AW X V mX12_around.2.2.1 T0 M 0 0 _ 0 [(0, .ref 96), (1, .int (nI n)), (2, .int (nI q)), (3, .int 0)] []
  refine ar_aload_n (n := 0) C dX12_around_0 rfl rfl ?_
  refine ar_iconst (v := 0) C dX12_around_1 (by decide) ?_
  refine ar_puti C flX12_59 kd_96 dX12_around_2 ?_
  refine ar_iload_n (n := 1) C dX12_around_5 rfl rfl ?_
  refine ar_i2l C dX12_around_6 ?_
  refine ar_ldc2 C kcX12_77 dX12_around_7 ?_
  refine ar_ldc2 C kcX12_88 dX12_around_10 ?_
  refine cS1 (ar := [.long ((nI n).toInt64), .long 2, .long 8]) (st := []) C lkX12_69 (k_inI (wi M 96 0 0) (nI n) 2 8 _ _ (by decide) (by decide)) (by decide) rfl (Nat.le_of_ble_eq_true rfl) rfl dX12_around_13 ?_
  refine ar_if_eqB (tgt := 36) C dX12_around_16 (by decide) (fun c_1 => False.elim (Bool.noConfusion ((in28 hn2 hn8).symm.trans c_1))) (fun _ => ?_)
  refine ar_iload_n (n := 2) C dX12_around_19 rfl rfl ?_
  refine cS1 (ar := [.int (nI q)]) (st := []) C lkX12_143 (k_mNumber (wi M 96 0 0) (nI q)) (by decide) rfl (Nat.le_of_ble_eq_true rfl) rfl dX12_around_20 ?_
  refine ar_if_eqB (tgt := 36) C dX12_around_23 (by decide) (fun c_2 => False.elim (Bool.noConfusion ((in23 hq).symm.trans c_2))) (fun _ => ?_)
  refine ar_iload_n (n := 3) C dX12_around_26 rfl rfl ?_
  refine ar_i2l C dX12_around_27 ?_
  refine ar_lconst (v := 0) C dX12_around_28 (by decide) ?_
  refine ar_lconst (v := 1) C dX12_around_29 (by decide) ?_
  refine cS1 (ar := [.long ((0 : Int32).toInt64), .long 0, .long 1]) (st := []) C lkX12_69 (k_inI (wi M 96 0 0) 0 0 1 _ _ (by decide) (by decide)) (by decide) rfl (Nat.le_of_ble_eq_true rfl) rfl dX12_around_30 ?_
  refine ar_if_neB (tgt := 39) C dX12_around_33 (by decide) (fun _ => ?_) (fun c_3 => False.elim (Bool.noConfusion ((show f_in 0 0 1 = true by decide).symm.trans c_3)))
  refine ar_aload_n (n := 0) C dX12_around_39 rfl rfl ?_
  refine ar_iload_n (n := 1) C dX12_around_40 rfl rfl ?_
  refine cV1q (ar := [.int (nI n)]) (st := []) C lkX12_178 kd_96 (m_goRoundW M hn2 hn8) (by decide) rfl (Nat.le_of_ble_eq_true rfl) rfl dX12_around_41 (fun M_4 h_5 => ?_)
  refine ar_if_neB (tgt := 50) C dX12_around_44 (by decide) (fun c_6 => ?_) (fun c_6 => ?_)
  · refine ar_iconst (v := 0) C dX12_around_50 (by decide) ?_
    refine ar_istore (als' := [(4, .int 0), (0, .ref 96), (1, .int (nI n)), (2, .int (nI q)), (3, .int 0)]) C dX12_around_51 (by decide) rfl ?_
    refine ar_iconst (v := 0) C dX12_around_53 (by decide) ?_
    refine ar_istore (als' := [(5, .int 0), (4, .int 0), (0, .ref 96), (1, .int (nI n)), (2, .int (nI q)), (3, .int 0)]) C dX12_around_54 (by decide) rfl ?_
    refine ar_iconst (v := 0) C dX12_around_56 (by decide) ?_
    refine ar_istore (als' := [(6, .int 0), (5, .int 0), (4, .int 0), (0, .ref 96), (1, .int (nI n)), (2, .int (nI q)), (3, .int 0)]) C dX12_around_57 (by decide) rfl ?_
    have hR := h_5.1 c_6
    have hcl : as_c (mH M) q n ≤ n := cntB_le _ n
    refine l_maround_0 C M M_4 hn2 hn8 hq hR ?_ (n + 1) 0 (by omega) (by omega)
    refine ar_iload (n := 2) C dX12_around_159 rfl ?_
    refine ar_if_ne (tgt := 169) C dX12_around_161 (by decide) (fun c_7 => ?_) (fun c_7 => ?_)
    · refine ar_iload (n := 1) C dX12_around_169 rfl ?_
      refine ar_iload (n := 2) C dX12_around_171 rfl ?_
      refine ar_idiv C dX12_around_173 c_7 ?_
      exact ar_ireturn C rfl dX12_around_174 ⟨by rw [if_pos c_6, if_neg (fun z => c_7 (by rw [z]; rfl)), by_ne c_7], rfl, h_5.2⟩
    · refine ar_ldc C kcX12_149 dX12_around_164 ?_
      refine ar_goto (tgt := 174) C dX12_around_166 (by decide) ?_
      exact ar_ireturn C rfl dX12_around_174 ⟨by rw [if_pos c_6, if_pos ((nI_eq (a := as_c (mH M) q n) (b := 0) (by omega) (by decide)).mp c_7)], rfl, h_5.2⟩
  · refine ar_ldc C kcX12_149 dX12_around_47 ?_
    exact ar_ireturn C rfl dX12_around_49 ⟨by rw [if_neg (by rw [c_6]; decide)], rfl, h_5.2⟩
set_option maxHeartbeats 4000000 in
set_option maxRecDepth 100000 in
theorem l_maround_1 {X : Ctx} {V : Vx} {Q : State → Prop} (C : Cx X V mX12_around 4) (M M1 : Mm) {n q : Nat} (hn2 : 2 ≤ n) (hn8 : n ≤ 8) (hq : q < 24) (hR : GQ M n M1) (kk : AW X V mX12_around.2.2.1 T0 M1 0 0 Q 159 [(6, .int (nI n)), (5, .int (as_s (mH M) (mY M) n q n)), (4, .int (nI (as_c (mH M) q n))), (0, .ref 96), (1, .int (nI n)), (2, .int (nI q)), (3, .int 1)] []) : ∀ (m : Nat) (k : Nat), k ≤ n → n - k < m → AW X V mX12_around.2.2.1 T0 (M1) 0 0 Q 59 [(6, .int (nI k)), (5, .int (as_s (mH M) (mY M) n q k)), (4, .int (nI (as_c (mH M) q k))), (0, .ref 96), (1, .int (nI n)), (2, .int (nI q)), (3, .int 1)] [] := by
  intro m
  induction m with
  | zero => intro k _ h; exact absurd h (Nat.not_lt_zero _)
  | succ m ih =>
    intro k hk0 hmz
    refine ar_iload (n := 0) C dX12_around_59 rfl ?_
    refine ar_iload_n (n := 4) C dX12_around_61 rfl rfl ?_
    refine ar_icmp_ge (tgt := 159) C dX12_around_62 (by decide) (fun c_1 => ?_) (fun c_1 => ?_)
    · have hk : k = n := Nat.le_antisymm hk0 (nat_le c_1 (by omega) (by omega))
      subst hk
      exact kk
    · have hk : k < n := nat_nle c_1 (by omega) (by omega)
      refine ar_bipush (v := 24) C dX12_around_65 (by decide) ?_
      refine ar_iload (n := 0) C dX12_around_67 rfl ?_
      refine ar_imul C dX12_around_69 ?_
      refine ar_iload_n (n := 5) C dX12_around_70 rfl rfl ?_
      refine ar_iadd C dX12_around_71 ?_
      refine ar_topi (nI (24 * k + q)) (ix24 k q) ?_
      refine ar_istore (als' := [(7, .int (nI (24 * k + q))), (6, .int (nI k)), (5, .int (as_s (mH M) (mY M) n q k)), (4, .int (nI (as_c (mH M) q k))), (0, .ref 96), (1, .int (nI n)), (2, .int (nI q)), (3, .int 1)]) C dX12_around_72 (by decide) rfl ?_
      refine ar_aload_n (n := 4) C dX12_around_74 rfl rfl ?_
      refine ar_getr C flX12_34 rfl kd_96 rf_96_11 dX12_around_75 ?_
      refine ar_iload (n := 0) C dX12_around_78 rfl ?_
      refine ar_zald (j := 24 * k + q) C kd_105 rfl (by omega) dX12_around_80 ?_
      refine ar_topi (mH M k q) (congrFun (hR.2.2.2 105 (by omega) (by omega)) (24 * k + q)) ?_
      refine ar_if_eq (tgt := 153) C dX12_around_81 (by decide) (fun c_2 => ?_) (fun c_2 => ?_)
      · refine ar_iinc (n := 1) (v := (nI (k + 1))) (als' := [(6, .int (nI (k + 1))), (7, .int (nI (24 * k + q))), (5, .int (as_s (mH M) (mY M) n q k)), (4, .int (nI (as_c (mH M) q k))), (0, .ref 96), (1, .int (nI n)), (2, .int (nI q)), (3, .int 1)]) C dX12_around_153 rfl (nI_1 _) (by decide) rfl ?_
        refine ar_goto (tgt := 59) C dX12_around_156 (by decide) ?_
        refine ar_sub [0, 2, 3, 4, 5, 6, 7] rfl ?_
        have h := ih (k + 1) (by omega) (by omega)
        rw [show as_c (mH M) q (k + 1) = as_c (mH M) q k from cntB_n (by simp; exact c_2)] at h
        rw [show as_s (mH M) (mY M) n q (k + 1) = _ from by simp only [as_s]; rw [if_pos c_2]] at h
        exact h
      · refine ar_iinc (n := 3) (v := (nI (as_c (mH M) q k + 1))) (als' := [(4, .int (nI (as_c (mH M) q k + 1))), (7, .int (nI (24 * k + q))), (6, .int (nI k)), (5, .int (as_s (mH M) (mY M) n q k)), (0, .ref 96), (1, .int (nI n)), (2, .int (nI q)), (3, .int 1)]) C dX12_around_84 rfl (nI_1 _) (by decide) rfl ?_
        refine ar_iload (n := 3) C dX12_around_87 rfl ?_
        refine ar_iload_n (n := 7) C dX12_around_89 rfl rfl ?_
        refine ar_if_ne (tgt := 123) C dX12_around_90 (by decide) (fun _ => ?_) (fun c_3 => absurd c_3 (by decide))
        refine ar_aload_n (n := 4) C dX12_around_123 rfl rfl ?_
        refine ar_getr C flX12_41 rfl kd_96 rf_96_13 dX12_around_124 ?_
        refine ar_iload (n := 1) C dX12_around_127 rfl ?_
        refine ar_iald (j := 24 * k + q) C kd_107 rfl (by omega) dX12_around_129 ?_
        refine ar_topi (mY M k q) (congrFun (hR.2.2.2 107 (by omega) (by omega)) (24 * k + q)) ?_
        refine ar_aload_n (n := 4) C dX12_around_130 rfl rfl ?_
        refine ar_getr C flX12_50 rfl kd_96 rf_96_20 dX12_around_131 ?_
        refine ar_iload (n := 2) C dX12_around_134 rfl ?_
        refine ar_iald (j := k) C kd_110 rfl (by omega) dX12_around_136 ?_
        refine ar_topi (rg_x (mH M) (mY M) n k) (hR.2.1 k (by omega)) ?_
        refine ar_iadd C dX12_around_137 ?_
        refine ar_aload_n (n := 4) C dX12_around_138 rfl rfl ?_
        refine ar_getr C flX12_50 rfl kd_96 rf_96_20 dX12_around_139 ?_
        refine ar_iload_n (n := 5) C dX12_around_142 rfl rfl ?_
        refine ar_iald (j := n) C kd_110 rfl (by omega) dX12_around_143 ?_
        refine ar_topi (rg_x (mH M) (mY M) n n) (hR.2.1 n (Nat.le_refl _)) ?_
        refine ar_iload (n := 2) C dX12_around_144 rfl ?_
        refine ar_imul C dX12_around_146 ?_
        refine ar_iload_n (n := 5) C dX12_around_147 rfl rfl ?_
        refine ar_idiv C dX12_around_148 (fun z => absurd ((nI_eq (a := n) (b := 0) (by omega) (by decide)).mp z) (by omega)) ?_
        refine ar_isub C dX12_around_149 ?_
        refine ar_topi (mY M k q + (rg_x (mH M) (mY M) n k - f_by (rg_x (mH M) (mY M) n n * nI k) (nI n))) (by rw [by_ne (fun z => absurd ((nI_eq (a := n) (b := 0) (by omega) (by decide)).mp z) (by omega)), Int32.sub_eq_add_neg, Int32.sub_eq_add_neg, Int32.add_assoc]) ?_
        refine ar_iadd C dX12_around_150 ?_
        refine ar_istore (als' := [(5, .int ((as_s (mH M) (mY M) n q k) + (mY M k q + (rg_x (mH M) (mY M) n k - f_by (rg_x (mH M) (mY M) n n * nI k) (nI n))))), (4, .int (nI (as_c (mH M) q k + 1))), (7, .int (nI (24 * k + q))), (6, .int (nI k)), (0, .ref 96), (1, .int (nI n)), (2, .int (nI q)), (3, .int 1)]) C dX12_around_151 (by decide) rfl ?_
        refine ar_iinc (n := 3) (v := (nI (k + 1))) (als' := [(6, .int (nI (k + 1))), (5, .int ((as_s (mH M) (mY M) n q k) + (mY M k q + (rg_x (mH M) (mY M) n k - f_by (rg_x (mH M) (mY M) n n * nI k) (nI n))))), (4, .int (nI (as_c (mH M) q k + 1))), (7, .int (nI (24 * k + q))), (0, .ref 96), (1, .int (nI n)), (2, .int (nI q)), (3, .int 1)]) C dX12_around_153 rfl (nI_1 _) (by decide) rfl ?_
        refine ar_goto (tgt := 59) C dX12_around_156 (by decide) ?_
        refine ar_sub [0, 1, 2, 4, 5, 6, 7] rfl ?_
        have h := ih (k + 1) (by omega) (by omega)
        rw [show as_c (mH M) q (k + 1) = as_c (mH M) q k + 1 from cntB_y (by simp; exact c_2)] at h
        rw [show as_s (mH M) (mY M) n q (k + 1) = _ from by simp only [as_s]; rw [if_neg c_2]] at h
        exact h
set_option maxHeartbeats 4000000 in
set_option maxRecDepth 100000 in
theorem m_around_1 (M : Mm) {n : Nat} (hn2 : 2 ≤ n) (hn8 : n ≤ 8) {q : Nat} (hq : q < 24) : AQ mX12_around 4 [.ref 96, .int (nI n), .int (nI q), .int 1] M (some (.int (if rg_ok (mH M) n n = true then (if as_c (mH M) q n = 0 then -1000000 else f_by (as_s (mH M) (mY M) n q n) (nI (as_c (mH M) q n))) else -1000000))) (GF (wi M 96 0 0)) := by
  refine AM_ofF (by decide +kernel) (Nat.le_of_ble_eq_true rfl) (fun X V C _ _ => ?_)
  show AW X V mX12_around.2.2.1 T0 M 0 0 _ 0 [(0, .ref 96), (1, .int (nI n)), (2, .int (nI q)), (3, .int 1)] []
  refine ar_aload_n (n := 0) C dX12_around_0 rfl rfl ?_
  refine ar_iconst (v := 0) C dX12_around_1 (by decide) ?_
  refine ar_puti C flX12_59 kd_96 dX12_around_2 ?_
  refine ar_iload_n (n := 1) C dX12_around_5 rfl rfl ?_
  refine ar_i2l C dX12_around_6 ?_
  refine ar_ldc2 C kcX12_77 dX12_around_7 ?_
  refine ar_ldc2 C kcX12_88 dX12_around_10 ?_
  refine cS1 (ar := [.long ((nI n).toInt64), .long 2, .long 8]) (st := []) C lkX12_69 (k_inI (wi M 96 0 0) (nI n) 2 8 _ _ (by decide) (by decide)) (by decide) rfl (Nat.le_of_ble_eq_true rfl) rfl dX12_around_13 ?_
  refine ar_if_eqB (tgt := 36) C dX12_around_16 (by decide) (fun c_1 => False.elim (Bool.noConfusion ((in28 hn2 hn8).symm.trans c_1))) (fun _ => ?_)
  refine ar_iload_n (n := 2) C dX12_around_19 rfl rfl ?_
  refine cS1 (ar := [.int (nI q)]) (st := []) C lkX12_143 (k_mNumber (wi M 96 0 0) (nI q)) (by decide) rfl (Nat.le_of_ble_eq_true rfl) rfl dX12_around_20 ?_
  refine ar_if_eqB (tgt := 36) C dX12_around_23 (by decide) (fun c_2 => False.elim (Bool.noConfusion ((in23 hq).symm.trans c_2))) (fun _ => ?_)
  refine ar_iload_n (n := 3) C dX12_around_26 rfl rfl ?_
  refine ar_i2l C dX12_around_27 ?_
  refine ar_lconst (v := 0) C dX12_around_28 (by decide) ?_
  refine ar_lconst (v := 1) C dX12_around_29 (by decide) ?_
  refine cS1 (ar := [.long ((1 : Int32).toInt64), .long 0, .long 1]) (st := []) C lkX12_69 (k_inI (wi M 96 0 0) 1 0 1 _ _ (by decide) (by decide)) (by decide) rfl (Nat.le_of_ble_eq_true rfl) rfl dX12_around_30 ?_
  refine ar_if_neB (tgt := 39) C dX12_around_33 (by decide) (fun _ => ?_) (fun c_3 => False.elim (Bool.noConfusion ((show f_in 1 0 1 = true by decide).symm.trans c_3)))
  refine ar_aload_n (n := 0) C dX12_around_39 rfl rfl ?_
  refine ar_iload_n (n := 1) C dX12_around_40 rfl rfl ?_
  refine cV1q (ar := [.int (nI n)]) (st := []) C lkX12_178 kd_96 (m_goRoundW M hn2 hn8) (by decide) rfl (Nat.le_of_ble_eq_true rfl) rfl dX12_around_41 (fun M_4 h_5 => ?_)
  refine ar_if_neB (tgt := 50) C dX12_around_44 (by decide) (fun c_6 => ?_) (fun c_6 => ?_)
  · refine ar_iconst (v := 0) C dX12_around_50 (by decide) ?_
    refine ar_istore (als' := [(4, .int 0), (0, .ref 96), (1, .int (nI n)), (2, .int (nI q)), (3, .int 1)]) C dX12_around_51 (by decide) rfl ?_
    refine ar_iconst (v := 0) C dX12_around_53 (by decide) ?_
    refine ar_istore (als' := [(5, .int 0), (4, .int 0), (0, .ref 96), (1, .int (nI n)), (2, .int (nI q)), (3, .int 1)]) C dX12_around_54 (by decide) rfl ?_
    refine ar_iconst (v := 0) C dX12_around_56 (by decide) ?_
    refine ar_istore (als' := [(6, .int 0), (5, .int 0), (4, .int 0), (0, .ref 96), (1, .int (nI n)), (2, .int (nI q)), (3, .int 1)]) C dX12_around_57 (by decide) rfl ?_
    have hR := h_5.1 c_6
    have hcl : as_c (mH M) q n ≤ n := cntB_le _ n
    refine l_maround_1 C M M_4 hn2 hn8 hq hR ?_ (n + 1) 0 (by omega) (by omega)
    refine ar_iload (n := 2) C dX12_around_159 rfl ?_
    refine ar_if_ne (tgt := 169) C dX12_around_161 (by decide) (fun c_7 => ?_) (fun c_7 => ?_)
    · refine ar_iload (n := 1) C dX12_around_169 rfl ?_
      refine ar_iload (n := 2) C dX12_around_171 rfl ?_
      refine ar_idiv C dX12_around_173 c_7 ?_
      exact ar_ireturn C rfl dX12_around_174 ⟨by rw [if_pos c_6, if_neg (fun z => c_7 (by rw [z]; rfl)), by_ne c_7], rfl, h_5.2⟩
    · refine ar_ldc C kcX12_149 dX12_around_164 ?_
      refine ar_goto (tgt := 174) C dX12_around_166 (by decide) ?_
      exact ar_ireturn C rfl dX12_around_174 ⟨by rw [if_pos c_6, if_pos ((nI_eq (a := as_c (mH M) q n) (b := 0) (by omega) (by decide)).mp c_7)], rfl, h_5.2⟩
  · refine ar_ldc C kcX12_149 dX12_around_47 ?_
    exact ar_ireturn C rfl dX12_around_49 ⟨by rw [if_neg (by rw [c_6]; decide)], rfl, h_5.2⟩
