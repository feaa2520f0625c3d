/-! RING -/
theorem insF_hi (v : Int32) : ∀ (n : Nat) (f : Nat → Int32) (j : Nat), n < j → insF v n f j = f j
  | 0, f, j, h => by simp [insF, upd]; omega
  | n + 1, f, j, h => by
    simp only [insF]
    split
    · simp [upd]; omega
    · rw [insF_hi v n _ j (by omega)]; simp [upd]; omega
theorem insF_pre (v : Int32) : ∀ (n : Nat) (f g : Nat → Int32), (∀ j, j < n → f j = g j) → ∀ j, j ≤ n → insF v n f j = insF v n g j
  | 0, f, g, _, j, hj => by
    have : j = 0 := by omega
    subst this
    simp [insF, upd]
  | n + 1, f, g, h, j, hj => by
    have hn := h n (by omega)
    simp only [insF]
    rw [← hn]
    by_cases c : f n ≤ v
    · rw [if_pos c, if_pos c]
      by_cases e : j = n + 1
      · simp [upd, e]
      · simp [upd, e]; exact h j (by omega)
    · rw [if_neg c, if_neg c]
      by_cases e : j = n + 1
      · subst e
        rw [insF_hi v n _ _ (by omega), insF_hi v n _ _ (by omega)]
        simp [upd]
      · refine insF_pre v n _ _ (fun q hq => ?_) j (by omega)
        have : ¬ q = n + 1 := by omega
        simp [upd, this]
        exact h q (by omega)
theorem jr_pre (h1 h2 d f0 f1 : Nat → Int32) : ∀ i j, j < cm h1 h2 i → jr h1 h2 d f0 i j = jr h1 h2 d f1 i j
  | 0, j, h => by simp [cm] at h
  | i + 1, j, h => by
    simp only [jr, cm] at h ⊢
    by_cases c1 : h1 i = 0
    · rw [if_pos c1] at h
      rw [if_pos c1, if_pos c1]
      exact jr_pre h1 h2 d f0 f1 i j h
    · rw [if_neg c1] at h
      rw [if_neg c1, if_neg c1]
      by_cases c2 : h2 i = 0
      · rw [if_pos c2] at h
        rw [if_pos c2, if_pos c2]
        exact jr_pre h1 h2 d f0 f1 i j h
      · rw [if_neg c2] at h
        rw [if_neg c2, if_neg c2]
        exact insF_pre _ _ _ _ (fun q hq => jr_pre h1 h2 d f0 f1 i q hq) j (by omega)
theorem mid_pre {f g : Nat → Int32} {n : Nat} (h : ∀ j, j < n → f j = g j) : f_mid f n = f_mid g n := by
  unfold f_mid
  by_cases c : n = 0
  · rw [if_pos c, if_pos c]
  · rw [if_neg c, if_neg c]
    exact h _ (by omega)
theorem ssum_pre {f g : Nat → Int32} : ∀ {n : Nat}, (∀ j, j < n → f j = g j) → ssum f n = ssum g n
  | 0, _ => rfl
  | n + 1, h => by
    simp only [ssum]
    rw [ssum_pre (fun j hj => h j (by omega)), h n (by omega)]
theorem mis_pre {f g : Nat → Int32} {n : Nat} (h : ∀ j, j < n → f j = g j) : f_mis f n = f_mis g n := by
  unfold f_mis
  rw [mid_pre h]
  exact ssum_pre (fun j hj => by rw [h j hj])
abbrev z0 : Nat → Int32 := fun _ => 0
def q_cm (h : Nat → Nat → Int32) (a b : Nat) : Nat := cm (h a) (h b) 24
def q_r (h x : Nat → Nat → Int32) (a b : Nat) : Nat → Int32 := jr (h a) (h b) (fun j => x a j - x b j) z0 24
def q_sx (h x : Nat → Nat → Int32) (a b : Nat) : Int32 := f_mid (q_r h x a b) (q_cm h a b)
def q_ms (h x y : Nat → Nat → Int32) (a b : Nat) : Int32 := f_mis (q_r h x a b) (q_cm h a b) + f_mis (q_r h y a b) (q_cm h a b)
def nx (n k : Nat) : Nat := if k + 1 < n then k + 1 else 0
def rg_x (h x : Nat → Nat → Int32) (n : Nat) : Nat → Int32
  | 0 => 0
  | k + 1 => rg_x h x n k + q_sx h x k (nx n k)
def rg_m (h x y : Nat → Nat → Int32) (n : Nat) : Nat → Int32
  | 0 => 0
  | k + 1 => rg_m h x y n k + q_ms h x y k (nx n k)
def rg_ok (h : Nat → Nat → Int32) (n : Nat) : Nat → Bool
  | 0 => true
  | k + 1 => rg_ok h n k && !decide (q_cm h k (nx n k) = 0)
theorem rg_no (h : Nat → Nat → Int32) (n k : Nat) (hk : rg_ok h n k = false) : ∀ m, k ≤ m → rg_ok h n m = false := by
  intro m
  induction m with
  | zero => intro q; rw [show k = 0 by omega] at hk; exact hk
  | succ m ih =>
    intro q
    rcases Nat.lt_or_ge m k with r | r
    · rw [show m + 1 = k by omega]; exact hk
    · simp only [rg_ok]
      rw [ih r]
      rfl
/-- the traces as the class keeps them -/
abbrev cH (M : Mm) : Nat → Nat → Int32 := fun a => M.1 (63 + 4 * a)
abbrev cX (M : Mm) : Nat → Nat → Int32 := fun a => M.1 (64 + 4 * a)
abbrev cY (M : Mm) : Nat → Nat → Int32 := fun a => M.1 (65 + 4 * a)
def RGF (M M1 : Mm) : Prop := (∀ c, (c < 10 ∨ 16 < c) → M1.1 c = M.1 c) ∧ M1.2 = M.2
def RGP (M : Mm) (n k : Nat) (M1 : Mm) : Prop := (∀ j, j ≤ k → M1.1 15 j = rg_x (cH M) (cX M) n j) ∧ (∀ j, j ≤ k → M1.1 16 j = rg_x (cH M) (cY M) n j) ∧ M1.1 14 2 = rg_m (cH M) (cX M) (cY M) n k ∧ RGF M M1
theorem k_jtakeF (M : Mm) {a b : Nat} (ha : a < 8) (hb : b < 8) {h1 h2 x1 x2 y1 y2 : Nat → Int32} (e1 : M.1 (63 + 4 * a) = h1) (e2 : M.1 (63 + 4 * b) = h2) (e3 : M.1 (64 + 4 * a) = x1) (e4 : M.1 (64 + 4 * b) = x2) (e5 : M.1 (65 + 4 * a) = y1) (e6 : M.1 (65 + 4 * b) = y2) : AQ mX1_take 1 [.ref 9, .ref (62 + 4 * a), .ref (62 + 4 * b)] M none (JT M h1 h2 (fun j => x1 j - x2 j) (fun j => y1 j - y2 j) 24) := by
  subst e1 e2 e3 e4 e5 e6
  exact k_jtake M ha hb
theorem jt_sx {M M1 M2 : Mm} {a b : Nat} {dy : Nat → Int32} (hJ : JT M1 (cH M a) (cH M b) (fun j => cX M a j - cX M b j) dy 24 M2) : f_mid (M2.1 11) (q_cm (cH M) a b) = q_sx (cH M) (cX M) a b := by
  rw [hJ.2.2.1]
  exact mid_pre (fun j hj => jr_pre _ _ _ _ _ 24 j hj)
theorem jt_sy {M M1 M2 : Mm} {a b : Nat} {dx : Nat → Int32} (hJ : JT M1 (cH M a) (cH M b) dx (fun j => cY M a j - cY M b j) 24 M2) : f_mid (M2.1 13) (q_cm (cH M) a b) = q_sx (cH M) (cY M) a b := by
  rw [hJ.2.2.2.1]
  exact mid_pre (fun j hj => jr_pre _ _ _ _ _ 24 j hj)
theorem jt_ms {M M1 M2 : Mm} {a b : Nat} (hJ : JT M1 (cH M a) (cH M b) (fun j => cX M a j - cX M b j) (fun j => cY M a j - cY M b j) 24 M2) : f_mis (M2.1 11) (q_cm (cH M) a b) + f_mis (M2.1 13) (q_cm (cH M) a b) = q_ms (cH M) (cX M) (cY M) a b := by
  rw [hJ.2.2.1, hJ.2.2.2.1]
  unfold q_ms q_r
  exact congr (congrArg HAdd.hAdd (mis_pre (fun j hj => jr_pre (cH M a) (cH M b) (fun j => cX M a j - cX M b j) (M1.1 11) z0 24 j hj))) (mis_pre (fun j hj => jr_pre (cH M a) (cH M b) (fun j => cY M a j - cY M b j) (M1.1 13) z0 24 j hj))
theorem RG_step {M M1 M2 : Mm} {n k : Nat} {dx dy h1 h2 : Nat → Int32} {a b c : Int32} (hR : RGP M n k M1) (hJ : JT M1 h1 h2 dx dy 24 M2) (ea : a = rg_x (cH M) (cX M) n (k + 1)) (eb : b = rg_x (cH M) (cY M) n (k + 1)) (ec : c = rg_m (cH M) (cX M) (cY M) n (k + 1)) : RGP M n (k + 1) (wi (wi (wi M2 15 (k + 1) a) 16 (k + 1) b) 14 2 c) := by
  obtain ⟨r1, r2, r3, r4, r5⟩ := hR
  obtain ⟨-, -, -, -, j5, j6⟩ := hJ
  have f15 : M2.1 15 = M1.1 15 := j5 15 (by omega) (by omega) (by omega) (by omega)
  have f16 : M2.1 16 = M1.1 16 := j5 16 (by omega) (by omega) (by omega) (by omega)
  refine ⟨fun j hj => ?_, fun j hj => ?_, ?_, fun q hq => ?_, ?_⟩
  · by_cases e : j = k + 1
    · subst e; simp [wi, ea]
    · simp [wi, e, f15]; exact r1 j (by omega)
  · by_cases e : j = k + 1
    · subst e; simp [wi, eb]
    · simp [wi, e, f16]; exact r2 j (by omega)
  · simp [wi, ec]
  · rw [← r4 q hq, ← j5 q (by omega) (by omega) (by omega) (by omega)]
    funext z
    have a1 : ¬ q = 15 := by omega
    have a2 : ¬ q = 16 := by omega
    have a3 : ¬ q = 14 := by omega
    simp [wi, a1, a2, a3]
  · show M2.2 = M.2
    rw [j6, r5]
def RGE (M : Mm) (n : Nat) (M1 : Mm) : Prop := (rg_ok (cH M) n n = true → RGP M n n M1) ∧ M1.1 15 0 = 0 ∧ M1.1 16 0 = 0 ∧ RGF M M1
set_option maxHeartbeats 4000000 in
set_option maxRecDepth 100000 in
theorem l_ring {X : Ctx} {V : Vx} {Q : State → Prop} (C : Cx X V mX3_take 3) (M : Mm) {n : Nat} (hn2 : 2 ≤ n) (hn8 : n ≤ 8) (k1 : ∀ M1, RGP M n n M1 → rg_ok (cH M) n n = true → AW X V mX3_take.2.2.1 T0 M1 0 0 Q 110 [(4, .int (nI n)), (0, .ref 14), (1, .ref 8), (2, .int (nI n)), (3, .ref 9)] []) (k0 : ∀ M1 als, rg_ok (cH M) n n = false → RGF M M1 → M1.1 15 0 = 0 → M1.1 16 0 = 0 → AW X V mX3_take.2.2.1 T0 M1 0 0 Q 47 als []) : ∀ (m : Nat) (k : Nat) (M1 : Mm), k ≤ n → RGP M n k M1 → rg_ok (cH M) n k = true → n - k < m → AW X V mX3_take.2.2.1 T0 (M1) 0 0 Q 8 [(4, .int (nI k)), (0, .ref 14), (1, .ref 8), (2, .int (nI n)), (3, .ref 9)] [] := by
  intro m
  induction m with
  | zero => intro k M1 _ _ _ h; exact absurd h (Nat.not_lt_zero _)
  | succ m ih =>
    intro k M1 hk0 hR hok hmz
    refine ar_iload (n := 0) C dX3_take_8 rfl ?_
    refine ar_iload_n (n := 3) C dX3_take_10 rfl rfl ?_
    refine ar_icmp_ge (tgt := 110) C dX3_take_11 (by decide) (fun c_1 => ?_) (fun c_1 => ?_)
    · have hk : k = n := Nat.le_antisymm hk0 (nat_le c_1 (by omega) (by omega))
      subst hk
      exact k1 M1 hR hok
    · have hk : k < n := nat_nle c_1 (by omega) (by omega)
      refine ar_aload_n (n := 4) C dX3_take_14 rfl rfl ?_
      refine ar_aload_n (n := 2) C dX3_take_15 rfl rfl ?_
      refine ar_iload (n := 0) C dX3_take_16 rfl ?_
      refine ar_aald (j := k) C kd_8 (by decide) (by decide) rfl (show k < 8 by omega) (rf_traces (show k < 8 by omega)) dX3_take_18 ?_
      refine ar_aload_n (n := 2) C dX3_take_19 rfl rfl ?_
      refine ar_iload (n := 0) C dX3_take_20 rfl ?_
      refine ar_iconst (v := 1) C dX3_take_22 (by decide) ?_
      refine ar_iadd C dX3_take_23 ?_
      refine ar_iload_n (n := 3) C dX3_take_24 rfl rfl ?_
      refine ar_icmp_ge (tgt := 35) C dX3_take_25 (by decide) (fun c_2 => ?_) (fun c_2 => ?_)
      · have hk1 : n ≤ k + 1 := by
          have q : nI n ≤ nI (k + 1) := by rw [← nI_1]; exact c_2
          exact nat_le q (by omega) (by omega)
        refine ar_iconst (v := 0) C dX3_take_35 (by decide) ?_
        refine ar_aald (j := 0) C kd_8 (by decide) (by decide) rfl (by decide) (rf_traces (by decide)) dX3_take_36 ?_
        refine cV0q (ar := [.ref (62 + 4 * k), .ref (62 + 4 * 0)]) (st := []) C lkX3_22 kd_9 (k_jtakeF M1 (a := k) (b := 0) (by omega) (by decide) (h1 := cH M k) (h2 := cH M 0) (x1 := cX M k) (x2 := cX M 0) (y1 := cY M k) (y2 := cY M 0) (hR.2.2.2.1 _ (by omega)) (hR.2.2.2.1 _ (by omega)) (hR.2.2.2.1 _ (by omega)) (hR.2.2.2.1 _ (by omega)) (hR.2.2.2.1 _ (by omega)) (hR.2.2.2.1 _ (by omega))) (by decide) rfl (Nat.le_of_ble_eq_true rfl) rfl dX3_take_37 (fun M_3 h_4 => ?_)
        refine ar_aload_n (n := 4) C dX3_take_40 rfl rfl ?_
        refine cV1 (ar := []) (st := []) C lkX3_28 kd_9 (k_jcommon M_3) (by decide) rfl (Nat.le_of_ble_eq_true rfl) rfl dX3_take_41 ?_
        refine ar_topi (nI (q_cm (cH M) k 0)) h_4.1 ?_
        refine ar_if_ne (tgt := 49) C dX3_take_44 (by decide) (fun c_5 => ?_) (fun c_5 => ?_)
        · have hc := cm_le (cH M k) (cH M 0) 24
          have en : nx n k = 0 := by unfold nx; rw [if_neg (by omega)]
          refine ar_aload_n (n := 1) C dX3_take_49 rfl rfl ?_
          refine ar_getr C flX3_9 rfl kd_14 rf_14_0 dX3_take_50 ?_
          refine ar_iload (n := 0) C dX3_take_53 rfl ?_
          refine ar_iconst (v := 1) C dX3_take_55 (by decide) ?_
          refine ar_iadd C dX3_take_56 ?_
          refine ar_aload_n (n := 1) C dX3_take_57 rfl rfl ?_
          refine ar_getr C flX3_9 rfl kd_14 rf_14_0 dX3_take_58 ?_
          refine ar_iload (n := 0) C dX3_take_61 rfl ?_
          refine ar_iald (j := k) C kd_15 rfl (by omega) dX3_take_63 ?_
          refine ar_topi (rg_x (cH M) (cX M) n k) (by rw [h_4.2.2.2.2.1 15 (by omega) (by omega) (by omega) (by omega)]; exact hR.1 k (Nat.le_refl _)) ?_
          refine ar_aload_n (n := 4) C dX3_take_64 rfl rfl ?_
          refine cV1 (ar := []) (st := [.int (rg_x (cH M) (cX M) n k), .int ((nI k) + 1), .ref 15]) C lkX3_32 kd_9 (k_jacross M_3 (n := q_cm (cH M) k 0) h_4.1 hc) (by decide) rfl (Nat.le_of_ble_eq_true rfl) rfl dX3_take_65 ?_
          refine ar_iadd C dX3_take_68 ?_
          refine ar_topi (rg_x (cH M) (cX M) n (k + 1)) (by rw [jt_sx h_4]; simp only [rg_x]; rw [en]) ?_
          refine ar_iast (j := k + 1) C kd_15 (nI_1 k) (by omega) dX3_take_69 ?_
          refine ar_aload_n (n := 1) C dX3_take_70 rfl rfl ?_
          refine ar_getr C flX3_15 rfl kd_14 rf_14_1 dX3_take_71 ?_
          refine ar_iload (n := 0) C dX3_take_74 rfl ?_
          refine ar_iconst (v := 1) C dX3_take_76 (by decide) ?_
          refine ar_iadd C dX3_take_77 ?_
          refine ar_aload_n (n := 1) C dX3_take_78 rfl rfl ?_
          refine ar_getr C flX3_15 rfl kd_14 rf_14_1 dX3_take_79 ?_
          refine ar_iload (n := 0) C dX3_take_82 rfl ?_
          refine ar_ialdV (j := k) (v := M_3.1 16 k) C kd_16 rfl (by omega) (by simp [wi, wl]; try omega) dX3_take_84 ?_
          refine ar_topi (rg_x (cH M) (cY M) n k) (by show M_3.1 16 k = _; rw [h_4.2.2.2.2.1 16 (by omega) (by omega) (by omega) (by omega)]; exact hR.2.1 k (Nat.le_refl _)) ?_
          refine ar_aload_n (n := 4) C dX3_take_85 rfl rfl ?_
          refine cV1 (ar := []) (st := [.int (rg_x (cH M) (cY M) n k), .int ((nI k) + 1), .ref 16]) C lkX3_35 kd_9 (k_jup (wi M_3 15 (k + 1) (rg_x (cH M) (cX M) n (k + 1))) (n := q_cm (cH M) k 0) (by simp only [wi]; exact h_4.2.1) hc) (by decide) rfl (Nat.le_of_ble_eq_true rfl) rfl dX3_take_86 ?_
          refine ar_iadd C dX3_take_89 ?_
          refine ar_topi (rg_x (cH M) (cY M) n (k + 1)) (by show rg_x (cH M) (cY M) n k + f_mid (M_3.1 13) (q_cm (cH M) k 0) = _; rw [jt_sy h_4]; simp only [rg_x]; rw [en]) ?_
          refine ar_iast (j := k + 1) C kd_16 (nI_1 k) (by omega) dX3_take_90 ?_
          refine ar_aload_n (n := 1) C dX3_take_91 rfl rfl ?_
          refine ar_dup C dX3_take_92 rfl ?_
          refine ar_getiV (v := M_3.1 14 2) C flX3_18 kd_14 (by simp [wi, wl]; try omega) dX3_take_93 ?_
          refine ar_topi (rg_m (cH M) (cX M) (cY M) n k) (by show M_3.1 14 2 = _; rw [h_4.2.2.2.2.1 14 (by omega) (by omega) (by omega) (by omega)]; exact hR.2.2.1) ?_
          refine ar_aload_n (n := 4) C dX3_take_96 rfl rfl ?_
          refine cV1 (ar := []) (st := [.int (rg_m (cH M) (cX M) (cY M) n k), .ref 14]) C lkX3_38 kd_9 (k_jmis (wi (wi M_3 15 (k + 1) (rg_x (cH M) (cX M) n (k + 1))) 16 (k + 1) (rg_x (cH M) (cY M) n (k + 1))) (n := q_cm (cH M) k 0) (by simp only [wi]; exact h_4.1) (by simp only [wi]; exact h_4.2.1) hc) (by decide) rfl (Nat.le_of_ble_eq_true rfl) rfl dX3_take_97 ?_
          refine ar_iadd C dX3_take_100 ?_
          refine ar_topi (rg_m (cH M) (cX M) (cY M) n (k + 1)) (by show rg_m (cH M) (cX M) (cY M) n k + (f_mis (M_3.1 11) (q_cm (cH M) k 0) + f_mis (M_3.1 13) (q_cm (cH M) k 0)) = _; rw [jt_ms h_4]; simp only [rg_m]; rw [en]) ?_
          refine ar_puti C flX3_18 kd_14 dX3_take_101 ?_
          refine ar_iinc (n := 0) (v := (nI (k + 1))) (als' := [(4, .int (nI (k + 1))), (0, .ref 14), (1, .ref 8), (2, .int (nI n)), (3, .ref 9)]) C dX3_take_104 rfl (nI_1 _) (by decide) rfl ?_
          refine ar_goto (tgt := 8) C dX3_take_107 (by decide) ?_
          refine ih (k + 1) _ (by omega) (RG_step hR h_4 rfl rfl rfl) ?_ (by omega)
          simp only [rg_ok]
          rw [hok, en]
          have q : ¬ q_cm (cH M) k 0 = 0 := fun q => c_5 (by rw [q]; rfl)
          simp [q]
        · have hc := cm_le (cH M k) (cH M 0) 24
          have en : nx n k = 0 := by unfold nx; rw [if_neg (by omega)]
          have hno : rg_ok (cH M) n (k + 1) = false := by simp only [rg_ok]; rw [en, (nI_eq (a := q_cm (cH M) k 0) (b := 0) (Nat.lt_of_le_of_lt hc (by decide)) (by decide)).mp c_5]; simp
          refine k0 _ _ (rg_no _ _ _ hno n (by omega)) ⟨fun c hc2 => by rw [h_4.2.2.2.2.1 c (by omega) (by omega) (by omega) (by omega)]; exact hR.2.2.2.1 c hc2, by rw [h_4.2.2.2.2.2]; exact hR.2.2.2.2⟩ ?_ ?_
          · rw [h_4.2.2.2.2.1 15 (by omega) (by omega) (by omega) (by omega)]; exact hR.1 0 (Nat.zero_le _)
          · rw [h_4.2.2.2.2.1 16 (by omega) (by omega) (by omega) (by omega)]; exact hR.2.1 0 (Nat.zero_le _)
      · have hk1 : k + 1 < n := by
          have q : ¬ nI n ≤ nI (k + 1) := by rw [← nI_1]; exact c_2
          exact nat_nle q (by omega) (by omega)
        refine ar_iload (n := 0) C dX3_take_28 rfl ?_
        refine ar_iconst (v := 1) C dX3_take_30 (by decide) ?_
        refine ar_iadd C dX3_take_31 ?_
        refine ar_goto (tgt := 36) C dX3_take_32 (by decide) ?_
        refine ar_aald (j := k + 1) C kd_8 (by decide) (by decide) (nI_1 k) (show k + 1 < 8 by omega) (rf_traces (show k + 1 < 8 by omega)) dX3_take_36 ?_
        refine cV0q (ar := [.ref (62 + 4 * k), .ref (62 + 4 * (k + 1))]) (st := []) C lkX3_22 kd_9 (k_jtakeF M1 (a := k) (b := (k + 1)) (by omega) (by omega) (h1 := cH M k) (h2 := cH M (k + 1)) (x1 := cX M k) (x2 := cX M (k + 1)) (y1 := cY M k) (y2 := cY M (k + 1)) (hR.2.2.2.1 _ (by omega)) (hR.2.2.2.1 _ (by omega)) (hR.2.2.2.1 _ (by omega)) (hR.2.2.2.1 _ (by omega)) (hR.2.2.2.1 _ (by omega)) (hR.2.2.2.1 _ (by omega))) (by decide) rfl (Nat.le_of_ble_eq_true rfl) rfl dX3_take_37 (fun M_6 h_7 => ?_)
        refine ar_aload_n (n := 4) C dX3_take_40 rfl rfl ?_
        refine cV1 (ar := []) (st := []) C lkX3_28 kd_9 (k_jcommon M_6) (by decide) rfl (Nat.le_of_ble_eq_true rfl) rfl dX3_take_41 ?_
        refine ar_topi (nI (q_cm (cH M) k (k + 1))) h_7.1 ?_
        refine ar_if_ne (tgt := 49) C dX3_take_44 (by decide) (fun c_8 => ?_) (fun c_8 => ?_)
        · have hc := cm_le (cH M k) (cH M (k + 1)) 24
          have en : nx n k = (k + 1) := by unfold nx; rw [if_pos (by omega)]
          refine ar_aload_n (n := 1) C dX3_take_49 rfl rfl ?_
          refine ar_getr C flX3_9 rfl kd_14 rf_14_0 dX3_take_50 ?_
          refine ar_iload (n := 0) C dX3_take_53 rfl ?_
          refine ar_iconst (v := 1) C dX3_take_55 (by decide) ?_
          refine ar_iadd C dX3_take_56 ?_
          refine ar_aload_n (n := 1) C dX3_take_57 rfl rfl ?_
          refine ar_getr C flX3_9 rfl kd_14 rf_14_0 dX3_take_58 ?_
          refine ar_iload (n := 0) C dX3_take_61 rfl ?_
          refine ar_iald (j := k) C kd_15 rfl (by omega) dX3_take_63 ?_
          refine ar_topi (rg_x (cH M) (cX M) n k) (by rw [h_7.2.2.2.2.1 15 (by omega) (by omega) (by omega) (by omega)]; exact hR.1 k (Nat.le_refl _)) ?_
          refine ar_aload_n (n := 4) C dX3_take_64 rfl rfl ?_
          refine cV1 (ar := []) (st := [.int (rg_x (cH M) (cX M) n k), .int ((nI k) + 1), .ref 15]) C lkX3_32 kd_9 (k_jacross M_6 (n := q_cm (cH M) k (k + 1)) h_7.1 hc) (by decide) rfl (Nat.le_of_ble_eq_true rfl) rfl dX3_take_65 ?_
          refine ar_iadd C dX3_take_68 ?_
          refine ar_topi (rg_x (cH M) (cX M) n (k + 1)) (by rw [jt_sx h_7]; simp only [rg_x]; rw [en]) ?_
          refine ar_iast (j := k + 1) C kd_15 (nI_1 k) (by omega) dX3_take_69 ?_
          refine ar_aload_n (n := 1) C dX3_take_70 rfl rfl ?_
          refine ar_getr C flX3_15 rfl kd_14 rf_14_1 dX3_take_71 ?_
          refine ar_iload (n := 0) C dX3_take_74 rfl ?_
          refine ar_iconst (v := 1) C dX3_take_76 (by decide) ?_
          refine ar_iadd C dX3_take_77 ?_
          refine ar_aload_n (n := 1) C dX3_take_78 rfl rfl ?_
          refine ar_getr C flX3_15 rfl kd_14 rf_14_1 dX3_take_79 ?_
          refine ar_iload (n := 0) C dX3_take_82 rfl ?_
          refine ar_ialdV (j := k) (v := M_6.1 16 k) C kd_16 rfl (by omega) (by simp [wi, wl]; try omega) dX3_take_84 ?_
          refine ar_topi (rg_x (cH M) (cY M) n k) (by show M_6.1 16 k = _; rw [h_7.2.2.2.2.1 16 (by omega) (by omega) (by omega) (by omega)]; exact hR.2.1 k (Nat.le_refl _)) ?_
          refine ar_aload_n (n := 4) C dX3_take_85 rfl rfl ?_
          refine cV1 (ar := []) (st := [.int (rg_x (cH M) (cY M) n k), .int ((nI k) + 1), .ref 16]) C lkX3_35 kd_9 (k_jup (wi M_6 15 (k + 1) (rg_x (cH M) (cX M) n (k + 1))) (n := q_cm (cH M) k (k + 1)) (by simp only [wi]; exact h_7.2.1) hc) (by decide) rfl (Nat.le_of_ble_eq_true rfl) rfl dX3_take_86 ?_
          refine ar_iadd C dX3_take_89 ?_
          refine ar_topi (rg_x (cH M) (cY M) n (k + 1)) (by show rg_x (cH M) (cY M) n k + f_mid (M_6.1 13) (q_cm (cH M) k (k + 1)) = _; rw [jt_sy h_7]; simp only [rg_x]; rw [en]) ?_
          refine ar_iast (j := k + 1) C kd_16 (nI_1 k) (by omega) dX3_take_90 ?_
          refine ar_aload_n (n := 1) C dX3_take_91 rfl rfl ?_
          refine ar_dup C dX3_take_92 rfl ?_
          refine ar_getiV (v := M_6.1 14 2) C flX3_18 kd_14 (by simp [wi, wl]; try omega) dX3_take_93 ?_
          refine ar_topi (rg_m (cH M) (cX M) (cY M) n k) (by show M_6.1 14 2 = _; rw [h_7.2.2.2.2.1 14 (by omega) (by omega) (by omega) (by omega)]; exact hR.2.2.1) ?_
          refine ar_aload_n (n := 4) C dX3_take_96 rfl rfl ?_
          refine cV1 (ar := []) (st := [.int (rg_m (cH M) (cX M) (cY M) n k), .ref 14]) C lkX3_38 kd_9 (k_jmis (wi (wi M_6 15 (k + 1) (rg_x (cH M) (cX M) n (k + 1))) 16 (k + 1) (rg_x (cH M) (cY M) n (k + 1))) (n := q_cm (cH M) k (k + 1)) (by simp only [wi]; exact h_7.1) (by simp only [wi]; exact h_7.2.1) hc) (by decide) rfl (Nat.le_of_ble_eq_true rfl) rfl dX3_take_97 ?_
          refine ar_iadd C dX3_take_100 ?_
          refine ar_topi (rg_m (cH M) (cX M) (cY M) n (k + 1)) (by show rg_m (cH M) (cX M) (cY M) n k + (f_mis (M_6.1 11) (q_cm (cH M) k (k + 1)) + f_mis (M_6.1 13) (q_cm (cH M) k (k + 1))) = _; rw [jt_ms h_7]; simp only [rg_m]; rw [en]) ?_
          refine ar_puti C flX3_18 kd_14 dX3_take_101 ?_
          refine ar_iinc (n := 0) (v := (nI (k + 1))) (als' := [(4, .int (nI (k + 1))), (0, .ref 14), (1, .ref 8), (2, .int (nI n)), (3, .ref 9)]) C dX3_take_104 rfl (nI_1 _) (by decide) rfl ?_
          refine ar_goto (tgt := 8) C dX3_take_107 (by decide) ?_
          refine ih (k + 1) _ (by omega) (RG_step hR h_7 rfl rfl rfl) ?_ (by omega)
          simp only [rg_ok]
          rw [hok, en]
          have q : ¬ q_cm (cH M) k (k + 1) = 0 := fun q => c_8 (by rw [q]; rfl)
          simp [q]
        · have hc := cm_le (cH M k) (cH M (k + 1)) 24
          have en : nx n k = (k + 1) := by unfold nx; rw [if_pos (by omega)]
          have hno : rg_ok (cH M) n (k + 1) = false := by simp only [rg_ok]; rw [en, (nI_eq (a := q_cm (cH M) k (k + 1)) (b := 0) (Nat.lt_of_le_of_lt hc (by decide)) (by decide)).mp c_8]; simp
          refine k0 _ _ (rg_no _ _ _ hno n (by omega)) ⟨fun c hc2 => by rw [h_7.2.2.2.2.1 c (by omega) (by omega) (by omega) (by omega)]; exact hR.2.2.2.1 c hc2, by rw [h_7.2.2.2.2.2]; exact hR.2.2.2.2⟩ ?_ ?_
          · rw [h_7.2.2.2.2.1 15 (by omega) (by omega) (by omega) (by omega)]; exact hR.1 0 (Nat.zero_le _)
          · rw [h_7.2.2.2.2.1 16 (by omega) (by omega) (by omega) (by omega)]; exact hR.2.1 0 (Nat.zero_le _)
set_option maxHeartbeats 4000000 in
set_option maxRecDepth 100000 in
theorem k_ring (M : Mm) {n : Nat} (hn2 : 2 ≤ n) (hn8 : n ≤ 8) (h15 : M.1 15 0 = 0) (h16 : M.1 16 0 = 0) : AQ mX3_take 3 [.ref 14, .ref 8, .int (nI n), .ref 9] M (some (.int (bI (rg_ok (cH M) n n)))) (RGE M n) := by
  refine AM_ofF (by decide +kernel) (Nat.le_of_ble_eq_true rfl) (fun X V C _ _ => ?_)
  show AW X V mX3_take.2.2.1 T0 M 0 0 _ 0 [(0, .ref 14), (1, .ref 8), (2, .int (nI n)), (3, .ref 9)] []
  refine ar_aload_n (n := 0) C dX3_take_0 rfl rfl ?_
  refine ar_iconst (v := 0) C dX3_take_1 (by decide) ?_
  refine ar_puti C flX3_18 kd_14 dX3_take_2 ?_
  refine ar_iconst (v := 0) C dX3_take_5 (by decide) ?_
  refine ar_istore (als' := [(4, .int 0), (0, .ref 14), (1, .ref 8), (2, .int (nI n)), (3, .ref 9)]) C dX3_take_6 (by decide) rfl ?_
  refine l_ring C M hn2 hn8 (fun M1 h ho => ?_) (fun M1 als hno hF e1 e2 => ?_) (n + 1) 0 _ (by omega) ⟨fun j hj => ?_, fun j hj => ?_, ?_, fun c hc => ?_, rfl⟩ rfl (by omega)
  · refine ar_iconst (v := 1) C dX3_take_110 (by decide) ?_
    refine ar_zreturn C rfl rfl dX3_take_111 ⟨by rw [ho]; rfl, rfl, fun _ => h, h.1 0 (Nat.zero_le _), h.2.1 0 (Nat.zero_le _), h.2.2.2⟩
  · refine ar_iconst (v := 0) C dX3_take_47 (by decide) ?_
    refine ar_zreturn C rfl rfl dX3_take_48 ⟨by rw [hno]; rfl, rfl, fun q => absurd q (by rw [hno]; decide), e1, e2, hF⟩
  · have : j = 0 := by omega
    subst this; simp [wi, h15, rg_x]
  · have : j = 0 := by omega
    subst this; simp [wi, h16, rg_x]
  · simp [wi, rg_m]
  · funext z; have : ¬ c = 14 := by omega
    simp [wi, this]
