/-! LENSTABLE: what it counts, and studios held to a painting -/
def Oc (c : Nat) (M M1 : Mm) : Prop := (∀ k, k ≠ c → M1.1 k = M.1 k) ∧ M1.2 = M.2
theorem Oc_rf (c : Nat) (M : Mm) : Oc c M M := ⟨fun _ _ => rfl, rfl⟩
def cntB (p : Nat → Bool) : Nat → Nat
  | 0 => 0
  | n + 1 => cntB p n + (if p n = true then 1 else 0)
theorem cntB_y {p : Nat → Bool} {n : Nat} (h : p n = true) : cntB p (n + 1) = cntB p n + 1 := by simp [cntB, h]
theorem cntB_n {p : Nat → Bool} {n : Nat} (h : p n = false) : cntB p (n + 1) = cntB p n := by simp [cntB, h]
theorem tm_n {c : Nat} (h : nI c ≤ 0) (hc : c ≤ 24) : (!decide (c = 0)) = false := by
  rcases Nat.eq_zero_or_pos c with z | z
  · simp [z]
  · exact absurd h (nI_nle z (by omega))
theorem tm_y {c : Nat} (h : ¬ nI c ≤ 0) : (!decide (c = 0)) = true := by
  rcases Nat.eq_zero_or_pos c with z | z
  · exact absurd (by rw [z]; decide) h
  · simp; omega
theorem cntB_le (p : Nat → Bool) : ∀ n, cntB p n ≤ n
  | 0 => Nat.le_refl 0
  | n + 1 => by
    have h := cntB_le p n
    simp only [cntB]
    split <;> omega
def allB (p : Nat → Bool) : Nat → Bool
  | 0 => true
  | n + 1 => allB p n && p n
theorem allB_no {p : Nat → Bool} {k : Nat} (h : p k = false) : ∀ n, k < n → allB p n = false := by
  intro n
  induction n with
  | zero => intro q; omega
  | succ n ih =>
    intro q
    simp only [allB]
    by_cases e : k = n
    · rw [← e, h, Bool.and_false]
    · rw [ih (by omega), Bool.false_and]
def sumN (g : Nat → Nat) : Nat → Nat
  | 0 => 0
  | n + 1 => sumN g n + g n
abbrev cTX (M : Mm) : Nat → Int32 := fun t => M.1 (38 + t) 0
abbrev cTY (M : Mm) : Nat → Int32 := fun t => M.1 (38 + t) 1
abbrev cTZ (M : Mm) : Nat → Int32 := fun t => M.1 (38 + t) 2
def KK (M : Mm) (i : Nat) : Int32 := P_kind (M.1 3) (M.1 4) (M.1 (38 + i) 0) (M.1 (38 + i) 1) (M.1 (38 + i) 2)
theorem Oc_pic {M M1 : Mm} {ρ β : Nat → Int32} {x y z : Int32} (h : Oc 7 M M1) : Oc 7 M (pic M1 ρ β x y z) := by
  refine ⟨fun k hk => ?_, h.2⟩
  rw [← h.1 k hk]
  funext b
  simp [pic, wi, hk]
theorem Oc_rs {M M1 : Mm} {s a : Nat} (h : Oc 19 M M1) : Oc 19 M (rs M1 s a) := by
  refine ⟨fun k hk => ?_, h.2⟩
  rw [← h.1 k hk]
  funext b
  simp [rs, wi, hk]
theorem rs_j {M M1 : Mm} {s a j : Nat} (h : Oc 19 M M1) (hj : j < 4) : (rs M1 s a).1 19 j = M.1 (23 + 2 * s) (a + j) := by
  rw [← h.1 (23 + 2 * s) (by omega)]
  rcases (show j = 0 ∨ j = 1 ∨ j = 2 ∨ j = 3 by omega) with rfl | rfl | rfl | rfl <;> simp [rs, wi]
/-- how far a studio (s: where it is, how deep) is off a painting, over the first n things -/
def mfs (s h mx my tx ty tz : Nat → Int32) : Nat → Int32
  | 0 => 0
  | t + 1 => if h t = 0 then mfs s h mx my tx ty tz t else mfs s h mx my tx ty tz t + (if tz t ≤ s 2 then 1000 else st_ap (s 0) (s 1) (s 2) (s 3) (tx t) (ty t) (tz t) (mx t) (my t))
def nrB (s h mx my tx ty tz : Nat → Int32) (e : Int32) (t : Nat) : Bool := st_near (s 0) (s 1) (s 2) (s 3) (tx t) (ty t) (tz t) (mx t) (my t) e
def mdB (s h mx my tx ty tz : Nat → Int32) (e : Int32) (t : Nat) : Bool := decide (h t = 0) || nrB s h mx my tx ty tz e t
theorem mfs_s {s s2 h mx my tx ty tz : Nat → Int32} (e : ∀ j, j < 4 → s j = s2 j) : ∀ n, mfs s h mx my tx ty tz n = mfs s2 h mx my tx ty tz n
  | 0 => rfl
  | n + 1 => by simp only [mfs]; rw [mfs_s e n, e 0 (by decide), e 1 (by decide), e 2 (by decide), e 3 (by decide)]
theorem nrB_s {s s2 h mx my tx ty tz : Nat → Int32} (e : ∀ j, j < 4 → s j = s2 j) (x : Int32) (t : Nat) : nrB s h mx my tx ty tz x t = nrB s2 h mx my tx ty tz x t := by
  unfold nrB; rw [e 0 (by decide), e 1 (by decide), e 2 (by decide), e 3 (by decide)]
theorem allB_c {p q : Nat → Bool} : ∀ {n : Nat}, (∀ k, k < n → p k = q k) → allB p n = allB q n
  | 0, _ => rfl
  | n + 1, h => by simp only [allB]; rw [allB_c (fun k hk => h k (by omega)), h n (by omega)]
theorem cntB_c {p q : Nat → Bool} : ∀ {n : Nat}, (∀ k, k < n → p k = q k) → cntB p n = cntB q n
  | 0, _ => rfl
  | n + 1, h => by simp only [cntB]; rw [cntB_c (fun k hk => h k (by omega)), h n (by omega)]
theorem Oc_H {M M1 : Mm} (h : Oc 19 M M1) (a : Nat) : cH M1 a = cH M a ∧ cX M1 a = cX M a ∧ cY M1 a = cY M a := ⟨h.1 _ (by omega), h.1 _ (by omega), h.1 _ (by omega)⟩
theorem Oc_T {M M1 : Mm} (h : Oc 19 M M1) : cTX M1 = cTX M ∧ cTY M1 = cTY M ∧ cTZ M1 = cTZ M := by
  refine ⟨?_, ?_, ?_⟩ <;> (funext t; show M1.1 (38 + t) _ = M.1 (38 + t) _; rw [h.1 _ (by omega)])
/-- the studio at place a of a row -/
abbrev sd (it : Nat → Int32) (a : Nat) : Nat → Int32 := fun j => it (a + j)
theorem mfs_rs {M M1 : Mm} {s a b : Nat} (h : Oc 19 M M1) (N : Nat) : mfs ((rs M1 s b).1 19) (cH (rs M1 s b) a) (cX (rs M1 s b) a) (cY (rs M1 s b) a) (cTX (rs M1 s b)) (cTY (rs M1 s b)) (cTZ (rs M1 s b)) N = mfs (sd (M.1 (23 + 2 * s)) b) (cH M a) (cX M a) (cY M a) (cTX M) (cTY M) (cTZ M) N := by
  have h2 := Oc_rs (s := s) (a := b) h
  obtain ⟨e1, e2, e3⟩ := Oc_H h2 a
  obtain ⟨e4, e5, e6⟩ := Oc_T h2
  rw [e1, e2, e3, e4, e5, e6]
  exact mfs_s (fun j hj => rs_j h hj) N
theorem nrB_rs {M M1 : Mm} {s a b : Nat} (h : Oc 19 M M1) (e : Int32) (t : Nat) : nrB ((rs M1 s b).1 19) (cH (rs M1 s b) a) (cX (rs M1 s b) a) (cY (rs M1 s b) a) (cTX (rs M1 s b)) (cTY (rs M1 s b)) (cTZ (rs M1 s b)) e t = nrB (sd (M.1 (23 + 2 * s)) b) (cH M a) (cX M a) (cY M a) (cTX M) (cTY M) (cTZ M) e t := by
  have h2 := Oc_rs (s := s) (a := b) h
  obtain ⟨e1, e2, e3⟩ := Oc_H h2 a
  obtain ⟨e4, e5, e6⟩ := Oc_T h2
  rw [e1, e2, e3, e4, e5, e6]
  exact nrB_s (fun j hj => rs_j h hj) e t
theorem mdB_rs {M M1 : Mm} {s a b : Nat} (h : Oc 19 M M1) (e : Int32) (t : Nat) : mdB ((rs M1 s b).1 19) (cH (rs M1 s b) a) (cX (rs M1 s b) a) (cY (rs M1 s b) a) (cTX (rs M1 s b)) (cTY (rs M1 s b)) (cTZ (rs M1 s b)) e t = mdB (sd (M.1 (23 + 2 * s)) b) (cH M a) (cX M a) (cY M a) (cTX M) (cTY M) (cTZ M) e t := by
  unfold mdB
  rw [nrB_rs h, (Oc_H (Oc_rs (s := s) (a := b) h) a).1]
def bst (m : Nat → Int32) : Nat → Nat
  | 0 => 0
  | k + 1 => if m (bst m k) ≤ m (k + 1) then bst m k else k + 1
theorem bst_le (m : Nat → Int32) : ∀ k, bst m k ≤ k
  | 0 => Nat.le_refl 0
  | k + 1 => by
    have h := bst_le m k
    simp only [bst]
    split <;> omega
set_option maxHeartbeats 4000000 in
set_option maxRecDepth 100000 in
theorem l_sheetsLaid {X : Ctx} {V : Vx} {Q : State → Prop} (C : Cx X V mX11_sheetsLaid 1) (M : Mm) (kk : AW X V mX11_sheetsLaid.2.2.1 T0 M 0 0 Q 31 [(2, .int (nI 8)), (1, .int (nI (cntB (fun s => !decide (M.1 (22 + 2 * s) 1 = -1)) 8))), (0, .ref 0)] []) : ∀ (m : Nat) (j : Nat), j ≤ 8 → 8 - j < m → AW X V mX11_sheetsLaid.2.2.1 T0 (M) 0 0 Q 4 [(2, .int (nI j)), (1, .int (nI (cntB (fun s => !decide (M.1 (22 + 2 * s) 1 = -1)) j))), (0, .ref 0)] [] := by
  intro m
  induction m with
  | zero => intro j _ h; exact absurd h (Nat.not_lt_zero _)
  | succ m ih =>
    intro j hj0 hmz
    refine ar_iload_n (n := 0) C dX11_sheetsLaid_4 rfl rfl ?_
    refine ar_bipush (v := 8) C dX11_sheetsLaid_5 (by decide) ?_
    refine ar_icmp_ge (tgt := 31) C dX11_sheetsLaid_7 (by decide) (fun c_1 => ?_) (fun c_1 => ?_)
    · have hj : j = 8 := Nat.le_antisymm hj0 (nat_le (a := 8) c_1 (by decide) (by omega))
      subst hj
      exact kk
    · have hj : j < 8 := nat_nle (a := 8) c_1 (by decide) (by omega)
      refine ar_aload_n (n := 2) C dX11_sheetsLaid_10 rfl rfl ?_
      refine ar_getr C flX11_11 rfl kd_0 rf_0_0 dX11_sheetsLaid_11 ?_
      refine ar_iload_n (n := 0) C dX11_sheetsLaid_14 rfl rfl ?_
      refine ar_aald (j := j) C kd_1 (by decide) (by decide) rfl hj (rf_sheets hj) dX11_sheetsLaid_15 ?_
      refine cV1 (ar := []) (st := []) C lkX11_110 (kd_sheet hj) (k_isMissing M hj) (by decide) rfl (Nat.le_of_ble_eq_true rfl) rfl dX11_sheetsLaid_16 ?_
      refine ar_if_neB (tgt := 25) C dX11_sheetsLaid_19 (by decide) (fun c_2 => ?_) (fun c_2 => ?_)
      · refine ar_iinc (n := 0) (v := (nI (j + 1))) (als' := [(2, .int (nI (j + 1))), (1, .int (nI (cntB (fun s => !decide (M.1 (22 + 2 * s) 1 = -1)) j))), (0, .ref 0)]) C dX11_sheetsLaid_25 rfl (nI_1 _) (by decide) rfl ?_
        refine ar_goto (tgt := 4) C dX11_sheetsLaid_28 (by decide) ?_
        have h := ih (j + 1) (by omega) (by omega)
        rw [cntB_n (by rw [c_2]; rfl)] at h
        exact h
      · refine ar_iinc (n := 1) (v := (nI (cntB (fun s => !decide (M.1 (22 + 2 * s) 1 = -1)) j + 1))) (als' := [(1, .int (nI (cntB (fun s => !decide (M.1 (22 + 2 * s) 1 = -1)) j + 1))), (2, .int (nI j)), (0, .ref 0)]) C dX11_sheetsLaid_22 rfl (nI_1 _) (by decide) rfl ?_
        refine ar_iinc (n := 1) (v := (nI (j + 1))) (als' := [(2, .int (nI (j + 1))), (1, .int (nI (cntB (fun s => !decide (M.1 (22 + 2 * s) 1 = -1)) j + 1))), (0, .ref 0)]) C dX11_sheetsLaid_25 rfl (nI_1 _) (by decide) rfl ?_
        refine ar_goto (tgt := 4) C dX11_sheetsLaid_28 (by decide) ?_
        have h := ih (j + 1) (by omega) (by omega)
        rw [cntB_y (by rw [c_2]; rfl)] at h
        exact h
set_option maxHeartbeats 4000000 in
set_option maxRecDepth 100000 in
theorem k_sheetsLaid (M : Mm) : AX mX11_sheetsLaid 1 [.ref 0] M (some (.int (nI (cntB (fun s => !decide (M.1 (22 + 2 * s) 1 = -1)) 8)))) M := by
  refine AM_ofF (by decide +kernel) (Nat.le_of_ble_eq_true rfl) (fun X V C _ _ => ?_)
  show AW X V mX11_sheetsLaid.2.2.1 T0 M 0 0 _ 0 [(0, .ref 0)] []
  refine ar_iconst (v := 0) C dX11_sheetsLaid_0 (by decide) ?_
  refine ar_istore_n (als' := [(1, .int 0), (0, .ref 0)]) C dX11_sheetsLaid_1 rfl (by decide) rfl ?_
  refine ar_iconst (v := 0) C dX11_sheetsLaid_2 (by decide) ?_
  refine ar_istore_n (als' := [(2, .int 0), (1, .int 0), (0, .ref 0)]) C dX11_sheetsLaid_3 rfl (by decide) rfl ?_
  exact l_sheetsLaid C M (ar_iload_n (n := 1) C dX11_sheetsLaid_31 rfl rfl (ar_ireturn C rfl dX11_sheetsLaid_32 ⟨rfl, rfl, rfl⟩)) 9 0 (by omega) (by omega)
set_option maxHeartbeats 4000000 in
set_option maxRecDepth 100000 in
theorem l_tracesMarked {X : Ctx} {V : Vx} {Q : State → Prop} (C : Cx X V mX11_tracesMarked 1) (M : Mm) (kk : AW X V mX11_tracesMarked.2.2.1 T0 M 0 0 Q 31 [(2, .int (nI 8)), (1, .int (nI (cntB (fun a => !decide (cnt (M.1 (63 + 4 * a)) 24 = 0)) 8))), (0, .ref 0)] []) : ∀ (m : Nat) (j : Nat), j ≤ 8 → 8 - j < m → AW X V mX11_tracesMarked.2.2.1 T0 (M) 0 0 Q 4 [(2, .int (nI j)), (1, .int (nI (cntB (fun a => !decide (cnt (M.1 (63 + 4 * a)) 24 = 0)) j))), (0, .ref 0)] [] := by
  intro m
  induction m with
  | zero => intro j _ h; exact absurd h (Nat.not_lt_zero _)
  | succ m ih =>
    intro j hj0 hmz
    refine ar_iload_n (n := 0) C dX11_tracesMarked_4 rfl rfl ?_
    refine ar_bipush (v := 8) C dX11_tracesMarked_5 (by decide) ?_
    refine ar_icmp_ge (tgt := 31) C dX11_tracesMarked_7 (by decide) (fun c_1 => ?_) (fun c_1 => ?_)
    · have hj : j = 8 := Nat.le_antisymm hj0 (nat_le (a := 8) c_1 (by decide) (by omega))
      subst hj
      exact kk
    · have hj : j < 8 := nat_nle (a := 8) c_1 (by decide) (by omega)
      refine ar_aload_n (n := 2) C dX11_tracesMarked_10 rfl rfl ?_
      refine ar_getr C flX11_41 rfl kd_0 rf_0_5 dX11_tracesMarked_11 ?_
      refine ar_iload_n (n := 0) C dX11_tracesMarked_14 rfl rfl ?_
      refine ar_aald (j := j) C kd_8 (by decide) (by decide) rfl hj (rf_traces hj) dX11_tracesMarked_15 ?_
      refine cV1 (ar := []) (st := []) C lkX11_234 (kd_trace hj) (k_marksMade M hj) (by decide) rfl (Nat.le_of_ble_eq_true rfl) rfl dX11_tracesMarked_16 ?_
      refine ar_if_le (tgt := 25) C dX11_tracesMarked_19 (by decide) (fun c_2 => ?_) (fun c_2 => ?_)
      · refine ar_iinc (n := 0) (v := (nI (j + 1))) (als' := [(2, .int (nI (j + 1))), (1, .int (nI (cntB (fun a => !decide (cnt (M.1 (63 + 4 * a)) 24 = 0)) j))), (0, .ref 0)]) C dX11_tracesMarked_25 rfl (nI_1 _) (by decide) rfl ?_
        refine ar_goto (tgt := 4) C dX11_tracesMarked_28 (by decide) ?_
        have h := ih (j + 1) (by omega) (by omega)
        rw [cntB_n (by first | exact tm_n c_2 (cnt_le _ 24) | exact tm_y c_2)] at h
        exact h
      · refine ar_iinc (n := 1) (v := (nI (cntB (fun a => !decide (cnt (M.1 (63 + 4 * a)) 24 = 0)) j + 1))) (als' := [(1, .int (nI (cntB (fun a => !decide (cnt (M.1 (63 + 4 * a)) 24 = 0)) j + 1))), (2, .int (nI j)), (0, .ref 0)]) C dX11_tracesMarked_22 rfl (nI_1 _) (by decide) rfl ?_
        refine ar_iinc (n := 1) (v := (nI (j + 1))) (als' := [(2, .int (nI (j + 1))), (1, .int (nI (cntB (fun a => !decide (cnt (M.1 (63 + 4 * a)) 24 = 0)) j + 1))), (0, .ref 0)]) C dX11_tracesMarked_25 rfl (nI_1 _) (by decide) rfl ?_
        refine ar_goto (tgt := 4) C dX11_tracesMarked_28 (by decide) ?_
        have h := ih (j + 1) (by omega) (by omega)
        rw [cntB_y (by first | exact tm_n c_2 (cnt_le _ 24) | exact tm_y c_2)] at h
        exact h
set_option maxHeartbeats 4000000 in
set_option maxRecDepth 100000 in
theorem k_tracesMarked (M : Mm) : AX mX11_tracesMarked 1 [.ref 0] M (some (.int (nI (cntB (fun a => !decide (cnt (M.1 (63 + 4 * a)) 24 = 0)) 8)))) M := by
  refine AM_ofF (by decide +kernel) (Nat.le_of_ble_eq_true rfl) (fun X V C _ _ => ?_)
  show AW X V mX11_tracesMarked.2.2.1 T0 M 0 0 _ 0 [(0, .ref 0)] []
  refine ar_iconst (v := 0) C dX11_tracesMarked_0 (by decide) ?_
  refine ar_istore_n (als' := [(1, .int 0), (0, .ref 0)]) C dX11_tracesMarked_1 rfl (by decide) rfl ?_
  refine ar_iconst (v := 0) C dX11_tracesMarked_2 (by decide) ?_
  refine ar_istore_n (als' := [(2, .int 0), (1, .int 0), (0, .ref 0)]) C dX11_tracesMarked_3 rfl (by decide) rfl ?_
  exact l_tracesMarked C M (ar_iload_n (n := 1) C dX11_tracesMarked_31 rfl rfl (ar_ireturn C rfl dX11_tracesMarked_32 ⟨rfl, rfl, rfl⟩)) 9 0 (by omega) (by omega)
set_option maxHeartbeats 4000000 in
set_option maxRecDepth 100000 in
theorem l_marksOn {X : Ctx} {V : Vx} {Q : State → Prop} (C : Cx X V mX11_marksOnPaper 1) (M : Mm) (kk : AW X V mX11_marksOnPaper.2.2.1 T0 M 0 0 Q 28 [(2, .int (nI 8)), (1, .int (nI (sumN (fun a => cnt (M.1 (63 + 4 * a)) 24) 8))), (0, .ref 0)] []) : ∀ (m : Nat) (j : Nat), j ≤ 8 → 8 - j < m → AW X V mX11_marksOnPaper.2.2.1 T0 (M) 0 0 Q 4 [(2, .int (nI j)), (1, .int (nI (sumN (fun a => cnt (M.1 (63 + 4 * a)) 24) j))), (0, .ref 0)] [] := by
  intro m
  induction m with
  | zero => intro j _ h; exact absurd h (Nat.not_lt_zero _)
  | succ m ih =>
    intro j hj0 hmz
    refine ar_iload_n (n := 0) C dX11_marksOnPaper_4 rfl rfl ?_
    refine ar_bipush (v := 8) C dX11_marksOnPaper_5 (by decide) ?_
    refine ar_icmp_ge (tgt := 28) C dX11_marksOnPaper_7 (by decide) (fun c_1 => ?_) (fun c_1 => ?_)
    · have hj : j = 8 := Nat.le_antisymm hj0 (nat_le (a := 8) c_1 (by decide) (by omega))
      subst hj
      exact kk
    · have hj : j < 8 := nat_nle (a := 8) c_1 (by decide) (by omega)
      refine ar_iload_n (n := 1) C dX11_marksOnPaper_10 rfl rfl ?_
      refine ar_aload_n (n := 2) C dX11_marksOnPaper_11 rfl rfl ?_
      refine ar_getr C flX11_41 rfl kd_0 rf_0_5 dX11_marksOnPaper_12 ?_
      refine ar_iload_n (n := 0) C dX11_marksOnPaper_15 rfl rfl ?_
      refine ar_aald (j := j) C kd_8 (by decide) (by decide) rfl hj (rf_traces hj) dX11_marksOnPaper_16 ?_
      refine cV1 (ar := []) (st := [.int (nI (sumN (fun a => cnt (M.1 (63 + 4 * a)) 24) j))]) C lkX11_234 (kd_trace hj) (k_marksMade M hj) (by decide) rfl (Nat.le_of_ble_eq_true rfl) rfl dX11_marksOnPaper_17 ?_
      refine ar_iadd C dX11_marksOnPaper_20 ?_
      refine ar_topi (nI (sumN (fun a => cnt (M.1 (63 + 4 * a)) 24) (j + 1))) (nI_add _ _) ?_
      refine ar_istore_n (als' := [(1, .int (nI (sumN (fun a => cnt (M.1 (63 + 4 * a)) 24) (j + 1)))), (2, .int (nI j)), (0, .ref 0)]) C dX11_marksOnPaper_21 rfl (by decide) rfl ?_
      refine ar_iinc (n := 1) (v := (nI (j + 1))) (als' := [(2, .int (nI (j + 1))), (1, .int (nI (sumN (fun a => cnt (M.1 (63 + 4 * a)) 24) (j + 1)))), (0, .ref 0)]) C dX11_marksOnPaper_22 rfl (nI_1 _) (by decide) rfl ?_
      refine ar_goto (tgt := 4) C dX11_marksOnPaper_25 (by decide) ?_
      exact ih (j + 1) (by omega) (by omega)
set_option maxHeartbeats 4000000 in
set_option maxRecDepth 100000 in
theorem k_marksOn (M : Mm) : AX mX11_marksOnPaper 1 [.ref 0] M (some (.int (nI (sumN (fun a => cnt (M.1 (63 + 4 * a)) 24) 8)))) M := by
  refine AM_ofF (by decide +kernel) (Nat.le_of_ble_eq_true rfl) (fun X V C _ _ => ?_)
  show AW X V mX11_marksOnPaper.2.2.1 T0 M 0 0 _ 0 [(0, .ref 0)] []
  refine ar_iconst (v := 0) C dX11_marksOnPaper_0 (by decide) ?_
  refine ar_istore_n (als' := [(1, .int 0), (0, .ref 0)]) C dX11_marksOnPaper_1 rfl (by decide) rfl ?_
  refine ar_iconst (v := 0) C dX11_marksOnPaper_2 (by decide) ?_
  refine ar_istore_n (als' := [(2, .int 0), (1, .int 0), (0, .ref 0)]) C dX11_marksOnPaper_3 rfl (by decide) rfl ?_
  exact l_marksOn C M (ar_iload_n (n := 1) C dX11_marksOnPaper_28 rfl rfl (ar_ireturn C rfl dX11_marksOnPaper_29 ⟨rfl, rfl, rfl⟩)) 9 0 (by omega) (by omega)
set_option maxHeartbeats 4000000 in
set_option maxRecDepth 100000 in
theorem l_toldAs {X : Ctx} {V : Vx} {Q : State → Prop} (C : Cx X V mX11_thingsToldAs 4) (M : Mm) {N : Nat} (hN : M.1 0 3 = nI N) (hN24 : N ≤ 24) (kd : Int32) (kk : ∀ M1, Oc 7 M M1 → AW X V mX11_thingsToldAs.2.2.1 T0 M1 0 0 Q 30 [(3, .int (nI N)), (2, .int (nI (cntB (fun i => decide (KK M i = kd)) N))), (0, .ref 0), (1, .int kd)] []) : ∀ (m : Nat) (j : Nat) (M1 : Mm), j ≤ N → Oc 7 M M1 → N - j < m → AW X V mX11_thingsToldAs.2.2.1 T0 (M1) 0 0 Q 4 [(3, .int (nI j)), (2, .int (nI (cntB (fun i => decide (KK M i = kd)) j))), (0, .ref 0), (1, .int kd)] [] := by
  intro m
  induction m with
  | zero => intro j M1 _ _ h; exact absurd h (Nat.not_lt_zero _)
  | succ m ih =>
    intro j M1 hj0 hO hmz
    refine ar_iload_n (n := 0) C dX11_thingsToldAs_4 rfl rfl ?_
    refine ar_aload_n (n := 2) C dX11_thingsToldAs_5 rfl rfl ?_
    refine ar_geti C flX11_28 kd_0 dX11_thingsToldAs_6 ?_
    refine ar_topi (nI N) (by rw [hO.1 0 (by decide)]; exact hN) ?_
    refine ar_icmp_ge (tgt := 30) C dX11_thingsToldAs_9 (by decide) (fun c_1 => ?_) (fun c_1 => ?_)
    · have hj : j = N := Nat.le_antisymm hj0 (nat_le c_1 (by omega) (by omega))
      subst hj
      exact kk M1 hO
    · have hj : j < N := nat_nle c_1 (by omega) (by omega)
      refine ar_aload_n (n := 2) C dX11_thingsToldAs_12 rfl rfl ?_
      refine ar_iload_n (n := 0) C dX11_thingsToldAs_13 rfl rfl ?_
      refine cV1 (ar := [.int (nI j)]) (st := []) C lkX11_349 kd_0 (k_kindOf M1 (i := j) (by omega) (hO.1 3 (by decide)) (hO.1 4 (by decide)) (congrFun (hO.1 (38 + j) (by omega)) 0) (congrFun (hO.1 (38 + j) (by omega)) 1) (congrFun (hO.1 (38 + j) (by omega)) 2)) (by decide) rfl (Nat.le_of_ble_eq_true rfl) rfl dX11_thingsToldAs_14 ?_
      refine ar_iload_n (n := 3) C dX11_thingsToldAs_17 rfl rfl ?_
      refine ar_icmp_ne (tgt := 24) C dX11_thingsToldAs_18 (by decide) (fun c_2 => ?_) (fun c_2 => ?_)
      · refine ar_iinc (n := 0) (v := (nI (j + 1))) (als' := [(3, .int (nI (j + 1))), (2, .int (nI (cntB (fun i => decide (KK M i = kd)) j))), (0, .ref 0), (1, .int kd)]) C dX11_thingsToldAs_24 rfl (nI_1 _) (by decide) rfl ?_
        refine ar_goto (tgt := 4) C dX11_thingsToldAs_27 (by decide) ?_
        have h := ih (j + 1) (pic M1 (M.1 3) (M.1 4) (M.1 (38 + j) 0) (M.1 (38 + j) 1) (M.1 (38 + j) 2)) (by omega) (Oc_pic hO) (by omega)
        rw [cntB_n (decide_eq_false c_2)] at h
        exact h
      · refine ar_iinc (n := 1) (v := (nI (cntB (fun i => decide (KK M i = kd)) j + 1))) (als' := [(2, .int (nI (cntB (fun i => decide (KK M i = kd)) j + 1))), (3, .int (nI j)), (0, .ref 0), (1, .int kd)]) C dX11_thingsToldAs_21 rfl (nI_1 _) (by decide) rfl ?_
        refine ar_iinc (n := 1) (v := (nI (j + 1))) (als' := [(3, .int (nI (j + 1))), (2, .int (nI (cntB (fun i => decide (KK M i = kd)) j + 1))), (0, .ref 0), (1, .int kd)]) C dX11_thingsToldAs_24 rfl (nI_1 _) (by decide) rfl ?_
        refine ar_goto (tgt := 4) C dX11_thingsToldAs_27 (by decide) ?_
        have h := ih (j + 1) (pic M1 (M.1 3) (M.1 4) (M.1 (38 + j) 0) (M.1 (38 + j) 1) (M.1 (38 + j) 2)) (by omega) (Oc_pic hO) (by omega)
        rw [cntB_y (decide_eq_true c_2)] at h
        exact h
set_option maxHeartbeats 4000000 in
set_option maxRecDepth 100000 in
theorem k_toldAs (M : Mm) {N : Nat} (hN : M.1 0 3 = nI N) (hN24 : N ≤ 24) (kd : Int32) : AQ mX11_thingsToldAs 4 [.ref 0, .int kd] M (some (.int (nI (cntB (fun i => decide (KK M i = kd)) N)))) (Oc 7 M) := by
  refine AM_ofF (by decide +kernel) (Nat.le_of_ble_eq_true rfl) (fun X V C _ _ => ?_)
  show AW X V mX11_thingsToldAs.2.2.1 T0 M 0 0 _ 0 [(0, .ref 0), (1, .int kd)] []
  refine ar_iconst (v := 0) C dX11_thingsToldAs_0 (by decide) ?_
  refine ar_istore_n (als' := [(2, .int 0), (0, .ref 0), (1, .int kd)]) C dX11_thingsToldAs_1 rfl (by decide) rfl ?_
  refine ar_iconst (v := 0) C dX11_thingsToldAs_2 (by decide) ?_
  refine ar_istore_n (als' := [(3, .int 0), (2, .int 0), (0, .ref 0), (1, .int kd)]) C dX11_thingsToldAs_3 rfl (by decide) rfl ?_
  exact l_toldAs C M hN hN24 kd (fun M1 h => ar_iload_n (n := 1) C dX11_thingsToldAs_30 rfl rfl (ar_ireturn C rfl dX11_thingsToldAs_31 ⟨rfl, rfl, h⟩)) (N + 1) 0 M (by omega) (Oc_rf 7 M) (by omega)
set_option maxHeartbeats 4000000 in
set_option maxRecDepth 100000 in
theorem l_areSt {X : Ctx} {V : Vx} {Q : State → Prop} (C : Cx X V mX11_areStudios 3) (M : Mm) {s i n : Nat} (hs : s < 8) (hin : i + 4 * n ≤ 80) (k1 : ∀ M1, Oc 19 M M1 → allB (fun k => f_stand (M.1 (23 + 2 * s) (i + 4 * k)) (M.1 (23 + 2 * s) (i + 4 * k + 1)) (M.1 (23 + 2 * s) (i + 4 * k + 2)) (M.1 (23 + 2 * s) (i + 4 * k + 3))) n = true → AW X V mX11_areStudios.2.2.1 T0 M1 0 0 Q 59 [(4, .int (nI n)), (0, .ref 0), (1, .int (nI s)), (2, .int (nI i)), (3, .int (nI n))] []) (k0 : ∀ M1 als, Oc 19 M M1 → allB (fun k => f_stand (M.1 (23 + 2 * s) (i + 4 * k)) (M.1 (23 + 2 * s) (i + 4 * k + 1)) (M.1 (23 + 2 * s) (i + 4 * k + 2)) (M.1 (23 + 2 * s) (i + 4 * k + 3))) n = false → AW X V mX11_areStudios.2.2.1 T0 M1 0 0 Q 51 als []) : ∀ (m : Nat) (k : Nat) (M1 : Mm), k ≤ n → Oc 19 M M1 → allB (fun k => f_stand (M.1 (23 + 2 * s) (i + 4 * k)) (M.1 (23 + 2 * s) (i + 4 * k + 1)) (M.1 (23 + 2 * s) (i + 4 * k + 2)) (M.1 (23 + 2 * s) (i + 4 * k + 3))) k = true → n - k < m → AW X V mX11_areStudios.2.2.1 T0 (M1) 0 0 Q 3 [(4, .int (nI k)), (0, .ref 0), (1, .int (nI s)), (2, .int (nI i)), (3, .int (nI n))] [] := by
  intro m
  induction m with
  | zero => intro k M1 _ _ _ h; exact absurd h (Nat.not_lt_zero _)
  | succ m ih =>
    intro k M1 hk0 hO hal hmz
    refine ar_iload (n := 0) C dX11_areStudios_3 rfl ?_
    refine ar_iload_n (n := 4) C dX11_areStudios_5 rfl rfl ?_
    refine ar_icmp_ge (tgt := 59) C dX11_areStudios_6 (by decide) (fun c_1 => ?_) (fun c_1 => ?_)
    · have hk : k = n := Nat.le_antisymm hk0 (nat_le c_1 (by omega) (by omega))
      subst hk
      exact k1 M1 hO hal
    · have hk : k < n := nat_nle c_1 (by omega) (by omega)
      refine ar_aload_n (n := 1) C dX11_areStudios_9 rfl rfl ?_
      refine ar_iload_n (n := 2) C dX11_areStudios_10 rfl rfl ?_
      refine ar_iload_n (n := 3) C dX11_areStudios_11 rfl rfl ?_
      refine ar_iload (n := 0) C dX11_areStudios_12 rfl ?_
      refine cV0 (ar := [.int (nI s), .int (nI i), .int (nI k)]) (st := []) C lkX11_318 kd_0 (k_readStudio M1 (s := s) (i := i) (k := k) hs (by omega)) (by decide) rfl (Nat.le_of_ble_eq_true rfl) rfl dX11_areStudios_14 ?_
      refine ar_aload_n (n := 1) C dX11_areStudios_17 rfl rfl ?_
      refine ar_getr C flX11_73 rfl kd_0 rf_0_10 dX11_areStudios_18 ?_
      refine ar_geti C flX11_383 kd_19 dX11_areStudios_21 ?_
      refine ar_topi (M.1 (23 + 2 * s) (i + 4 * k)) (rs_j (j := 0) hO (by decide)) ?_
      refine ar_aload_n (n := 1) C dX11_areStudios_24 rfl rfl ?_
      refine ar_getr C flX11_73 rfl kd_0 rf_0_10 dX11_areStudios_25 ?_
      refine ar_geti C flX11_386 kd_19 dX11_areStudios_28 ?_
      refine ar_topi (M.1 (23 + 2 * s) (i + 4 * k + 1)) (rs_j (j := 1) hO (by decide)) ?_
      refine ar_aload_n (n := 1) C dX11_areStudios_31 rfl rfl ?_
      refine ar_getr C flX11_73 rfl kd_0 rf_0_10 dX11_areStudios_32 ?_
      refine ar_geti C flX11_389 kd_19 dX11_areStudios_35 ?_
      refine ar_topi (M.1 (23 + 2 * s) (i + 4 * k + 2)) (rs_j (j := 2) hO (by decide)) ?_
      refine ar_aload_n (n := 1) C dX11_areStudios_38 rfl rfl ?_
      refine ar_getr C flX11_73 rfl kd_0 rf_0_10 dX11_areStudios_39 ?_
      refine ar_geti C flX11_392 kd_19 dX11_areStudios_42 ?_
      refine ar_topi (M.1 (23 + 2 * s) (i + 4 * k + 3)) (rs_j (j := 3) hO (by decide)) ?_
      refine cS1 (ar := [.int (M.1 (23 + 2 * s) (i + 4 * k)), .int (M.1 (23 + 2 * s) (i + 4 * k + 1)), .int (M.1 (23 + 2 * s) (i + 4 * k + 2)), .int (M.1 (23 + 2 * s) (i + 4 * k + 3))]) (st := []) C lkX11_275 (k_isStand (rs M1 s (i + 4 * k)) (M.1 (23 + 2 * s) (i + 4 * k)) (M.1 (23 + 2 * s) (i + 4 * k + 1)) (M.1 (23 + 2 * s) (i + 4 * k + 2)) (M.1 (23 + 2 * s) (i + 4 * k + 3))) (by decide) rfl (Nat.le_of_ble_eq_true rfl) rfl dX11_areStudios_45 ?_
      refine ar_if_neB (tgt := 53) C dX11_areStudios_48 (by decide) (fun c_2 => ?_) (fun c_2 => ?_)
      · refine ar_iinc (n := 0) (v := (nI (k + 1))) (als' := [(4, .int (nI (k + 1))), (0, .ref 0), (1, .int (nI s)), (2, .int (nI i)), (3, .int (nI n))]) C dX11_areStudios_53 rfl (nI_1 _) (by decide) rfl ?_
        refine ar_goto (tgt := 3) C dX11_areStudios_56 (by decide) ?_
        refine ih (k + 1) _ (by omega) (Oc_rs hO) ?_ (by omega)
        simp only [allB]
        rw [hal]
        exact c_2
      · exact k0 _ _ (Oc_rs hO) (allB_no (p := (fun k => f_stand (M.1 (23 + 2 * s) (i + 4 * k)) (M.1 (23 + 2 * s) (i + 4 * k + 1)) (M.1 (23 + 2 * s) (i + 4 * k + 2)) (M.1 (23 + 2 * s) (i + 4 * k + 3)))) c_2 n hk)
set_option maxHeartbeats 4000000 in
set_option maxRecDepth 100000 in
theorem k_areSt (M : Mm) {s i n : Nat} (hs : s < 8) (hin : i + 4 * n ≤ 80) : AQ mX11_areStudios 3 [.ref 0, .int (nI s), .int (nI i), .int (nI n)] M (some (.int (bI (allB (fun k => f_stand (M.1 (23 + 2 * s) (i + 4 * k)) (M.1 (23 + 2 * s) (i + 4 * k + 1)) (M.1 (23 + 2 * s) (i + 4 * k + 2)) (M.1 (23 + 2 * s) (i + 4 * k + 3))) n)))) (Oc 19 M) := by
  refine AM_ofF (by decide +kernel) (Nat.le_of_ble_eq_true rfl) (fun X V C _ _ => ?_)
  show AW X V mX11_areStudios.2.2.1 T0 M 0 0 _ 0 [(0, .ref 0), (1, .int (nI s)), (2, .int (nI i)), (3, .int (nI n))] []
  refine ar_iconst (v := 0) C dX11_areStudios_0 (by decide) ?_
  refine ar_istore (als' := [(4, .int 0), (0, .ref 0), (1, .int (nI s)), (2, .int (nI i)), (3, .int (nI n))]) C dX11_areStudios_1 (by decide) rfl ?_
  refine l_areSt C M hs hin (fun M1 hO h => ?_) (fun M1 als hO h => ?_) (n + 1) 0 M (by omega) (Oc_rf 19 M) rfl (by omega)
  · exact ar_iconst (v := 1) C dX11_areStudios_59 (by decide) (ar_zreturn C rfl rfl dX11_areStudios_60 ⟨by rw [h]; rfl, rfl, hO⟩)
  · exact ar_iconst (v := 0) C dX11_areStudios_51 (by decide) (ar_zreturn C rfl rfl dX11_areStudios_52 ⟨by rw [h]; rfl, rfl, hO⟩)
set_option maxHeartbeats 4000000 in
set_option maxRecDepth 100000 in
theorem l_pmis {X : Ctx} {V : Vx} {Q : State → Prop} (C : Cx X V mX11_painterMisfit 3) (M : Mm) {a : Nat} (ha : a < 8) {N : Nat} (hN : M.1 0 3 = nI N) (hN24 : N ≤ 24) (kk : AW X V mX11_painterMisfit.2.2.1 T0 M 0 0 Q 58 [(3, .int (nI N)), (2, .int (mfs (M.1 19) (cH M a) (cX M a) (cY M a) (cTX M) (cTY M) (cTZ M) N)), (0, .ref 0), (1, .ref (62 + 4 * a))] []) : ∀ (m : Nat) (i : Nat), i ≤ N → N - i < m → AW X V mX11_painterMisfit.2.2.1 T0 (M) 0 0 Q 4 [(3, .int (nI i)), (2, .int (mfs (M.1 19) (cH M a) (cX M a) (cY M a) (cTX M) (cTY M) (cTZ M) i)), (0, .ref 0), (1, .ref (62 + 4 * a))] [] := by
  intro m
  induction m with
  | zero => intro i _ h; exact absurd h (Nat.not_lt_zero _)
  | succ m ih =>
    intro i hi0 hmz
    refine ar_iload_n (n := 0) C dX11_painterMisfit_4 rfl rfl ?_
    refine ar_aload_n (n := 2) C dX11_painterMisfit_5 rfl rfl ?_
    refine ar_geti C flX11_28 kd_0 dX11_painterMisfit_6 ?_
    refine ar_topi (nI N) hN ?_
    refine ar_icmp_ge (tgt := 58) C dX11_painterMisfit_9 (by decide) (fun c_1 => ?_) (fun c_1 => ?_)
    · have hi : i = N := Nat.le_antisymm hi0 (nat_le c_1 (by omega) (by omega))
      subst hi
      exact kk
    · have hiN : i < N := nat_nle c_1 (by omega) (by omega)
      have hi : i < 24 := by omega
      refine ar_aload_n (n := 3) C dX11_painterMisfit_12 rfl rfl ?_
      refine ar_getr C flX11_222 rfl (kd_trace ha) (rf_has ha) dX11_painterMisfit_13 ?_
      refine ar_iload_n (n := 0) C dX11_painterMisfit_16 rfl rfl ?_
      refine ar_zald (j := i) C (kd_has ha) rfl hi dX11_painterMisfit_17 ?_
      refine ar_if_eq (tgt := 52) C dX11_painterMisfit_18 (by decide) (fun c_2 => ?_) (fun c_2 => ?_)
      · refine ar_iinc (n := 0) (v := (nI (i + 1))) (als' := [(3, .int (nI (i + 1))), (2, .int (mfs (M.1 19) (cH M a) (cX M a) (cY M a) (cTX M) (cTY M) (cTZ M) i)), (0, .ref 0), (1, .ref (62 + 4 * a))]) C dX11_painterMisfit_52 rfl (nI_1 _) (by decide) rfl ?_
        refine ar_goto (tgt := 4) C dX11_painterMisfit_55 (by decide) ?_
        have h := ih (i + 1) (by omega) (by omega)
        rw [show mfs (M.1 19) (cH M a) (cX M a) (cY M a) (cTX M) (cTY M) (cTZ M) (i + 1) = mfs (M.1 19) (cH M a) (cX M a) (cY M a) (cTX M) (cTY M) (cTZ M) i from by simp only [mfs]; rw [if_pos c_2]] at h
        exact h
      · refine ar_iload_n (n := 1) C dX11_painterMisfit_21 rfl rfl ?_
        refine ar_aload_n (n := 2) C dX11_painterMisfit_22 rfl rfl ?_
        refine ar_getr C flX11_73 rfl kd_0 rf_0_10 dX11_painterMisfit_23 ?_
        refine ar_aload_n (n := 2) C dX11_painterMisfit_26 rfl rfl ?_
        refine ar_getr C flX11_24 rfl kd_0 rf_0_2 dX11_painterMisfit_27 ?_
        refine ar_iload_n (n := 0) C dX11_painterMisfit_30 rfl rfl ?_
        refine ar_aald (j := i) C kd_6 (by decide) (by decide) rfl hi (rf_things hi) dX11_painterMisfit_31 ?_
        refine cV1 (ar := [.ref (38 + i)]) (st := [.int (mfs (M.1 19) (cH M a) (cX M a) (cY M a) (cTX M) (cTY M) (cTZ M) i)]) C lkX11_395 kd_19 (k_sees M hi) (by decide) rfl (Nat.le_of_ble_eq_true rfl) rfl dX11_painterMisfit_32 ?_
        refine ar_if_eqB (tgt := 47) C dX11_painterMisfit_35 (by decide) (fun c_3 => ?_) (fun c_3 => ?_)
        · refine ar_sipush (v := 1000) C dX11_painterMisfit_47 (by decide) ?_
          refine ar_iadd C dX11_painterMisfit_50 ?_
          refine ar_istore_n (als' := [(2, .int ((mfs (M.1 19) (cH M a) (cX M a) (cY M a) (cTX M) (cTY M) (cTZ M) i) + 1000)), (3, .int (nI i)), (0, .ref 0), (1, .ref (62 + 4 * a))]) C dX11_painterMisfit_51 rfl (by decide) rfl ?_
          refine ar_iinc (n := 1) (v := (nI (i + 1))) (als' := [(3, .int (nI (i + 1))), (2, .int ((mfs (M.1 19) (cH M a) (cX M a) (cY M a) (cTX M) (cTY M) (cTZ M) i) + 1000)), (0, .ref 0), (1, .ref (62 + 4 * a))]) C dX11_painterMisfit_52 rfl (nI_1 _) (by decide) rfl ?_
          refine ar_goto (tgt := 4) C dX11_painterMisfit_55 (by decide) ?_
          have h := ih (i + 1) (by omega) (by omega)
          rw [show mfs (M.1 19) (cH M a) (cX M a) (cY M a) (cTX M) (cTY M) (cTZ M) (i + 1) = (mfs (M.1 19) (cH M a) (cX M a) (cY M a) (cTX M) (cTY M) (cTZ M) i) + 1000 from by simp only [mfs]; rw [if_neg c_2, if_pos (by simpa using c_3)]] at h
          exact h
        · refine ar_aload_n (n := 2) C dX11_painterMisfit_38 rfl rfl ?_
          refine ar_aload_n (n := 3) C dX11_painterMisfit_39 rfl rfl ?_
          refine ar_iload_n (n := 0) C dX11_painterMisfit_40 rfl rfl ?_
          refine cV1 (ar := [.ref (62 + 4 * a), .int (nI i)]) (st := [.int (mfs (M.1 19) (cH M a) (cX M a) (cY M a) (cTX M) (cTY M) (cTZ M) i)]) C lkX11_399 kd_0 (k_apart M ha hi) (by decide) rfl (Nat.le_of_ble_eq_true rfl) rfl dX11_painterMisfit_41 ?_
          refine ar_goto (tgt := 50) C dX11_painterMisfit_44 (by decide) ?_
          refine ar_iadd C dX11_painterMisfit_50 ?_
          refine ar_istore_n (als' := [(2, .int ((mfs (M.1 19) (cH M a) (cX M a) (cY M a) (cTX M) (cTY M) (cTZ M) i) + (st_ap (M.1 19 0) (M.1 19 1) (M.1 19 2) (M.1 19 3) (M.1 (38 + i) 0) (M.1 (38 + i) 1) (M.1 (38 + i) 2) (M.1 (64 + 4 * a) i) (M.1 (65 + 4 * a) i)))), (3, .int (nI i)), (0, .ref 0), (1, .ref (62 + 4 * a))]) C dX11_painterMisfit_51 rfl (by decide) rfl ?_
          refine ar_iinc (n := 1) (v := (nI (i + 1))) (als' := [(3, .int (nI (i + 1))), (2, .int ((mfs (M.1 19) (cH M a) (cX M a) (cY M a) (cTX M) (cTY M) (cTZ M) i) + (st_ap (M.1 19 0) (M.1 19 1) (M.1 19 2) (M.1 19 3) (M.1 (38 + i) 0) (M.1 (38 + i) 1) (M.1 (38 + i) 2) (M.1 (64 + 4 * a) i) (M.1 (65 + 4 * a) i)))), (0, .ref 0), (1, .ref (62 + 4 * a))]) C dX11_painterMisfit_52 rfl (nI_1 _) (by decide) rfl ?_
          refine ar_goto (tgt := 4) C dX11_painterMisfit_55 (by decide) ?_
          have h := ih (i + 1) (by omega) (by omega)
          rw [show mfs (M.1 19) (cH M a) (cX M a) (cY M a) (cTX M) (cTY M) (cTZ M) (i + 1) = (mfs (M.1 19) (cH M a) (cX M a) (cY M a) (cTX M) (cTY M) (cTZ M) i) + (st_ap (M.1 19 0) (M.1 19 1) (M.1 19 2) (M.1 19 3) (M.1 (38 + i) 0) (M.1 (38 + i) 1) (M.1 (38 + i) 2) (M.1 (64 + 4 * a) i) (M.1 (65 + 4 * a) i)) from by simp only [mfs]; rw [if_neg c_2, if_neg (by simpa using c_3)]] at h
          exact h
set_option maxHeartbeats 4000000 in
set_option maxRecDepth 100000 in
theorem k_pmis (M : Mm) {a : Nat} (ha : a < 8) {N : Nat} (hN : M.1 0 3 = nI N) (hN24 : N ≤ 24) : AX mX11_painterMisfit 3 [.ref 0, .ref (62 + 4 * a)] M (some (.int (mfs (M.1 19) (cH M a) (cX M a) (cY M a) (cTX M) (cTY M) (cTZ M) N))) M := by
  refine AM_ofF (by decide +kernel) (Nat.le_of_ble_eq_true rfl) (fun X V C _ _ => ?_)
  show AW X V mX11_painterMisfit.2.2.1 T0 M 0 0 _ 0 [(0, .ref 0), (1, .ref (62 + 4 * a))] []
  refine ar_iconst (v := 0) C dX11_painterMisfit_0 (by decide) ?_
  refine ar_istore_n (als' := [(2, .int 0), (0, .ref 0), (1, .ref (62 + 4 * a))]) C dX11_painterMisfit_1 rfl (by decide) rfl ?_
  refine ar_iconst (v := 0) C dX11_painterMisfit_2 (by decide) ?_
  refine ar_istore_n (als' := [(3, .int 0), (2, .int 0), (0, .ref 0), (1, .ref (62 + 4 * a))]) C dX11_painterMisfit_3 rfl (by decide) rfl ?_
  exact l_pmis C M ha hN hN24 (ar_iload_n (n := 1) C dX11_painterMisfit_58 rfl rfl (ar_ireturn C rfl dX11_painterMisfit_59 ⟨rfl, rfl, rfl⟩)) (N + 1) 0 (by omega) (by omega)
set_option maxHeartbeats 4000000 in
set_option maxRecDepth 100000 in
theorem l_made {X : Ctx} {V : Vx} {Q : State → Prop} (C : Cx X V mX11_hasPainterMade 3) (M : Mm) {a : Nat} (ha : a < 8) {N : Nat} (hN : M.1 0 3 = nI N) (hN24 : N ≤ 24) (e : Int32) (k1 : allB (mdB (M.1 19) (cH M a) (cX M a) (cY M a) (cTX M) (cTY M) (cTZ M) e) N = true → AW X V mX11_hasPainterMade.2.2.1 T0 M 0 0 Q 37 [(3, .int (nI N)), (0, .ref 0), (1, .ref (62 + 4 * a)), (2, .int e)] []) (k0 : ∀ als, allB (mdB (M.1 19) (cH M a) (cX M a) (cY M a) (cTX M) (cTY M) (cTZ M) e) N = false → AW X V mX11_hasPainterMade.2.2.1 T0 M 0 0 Q 29 als []) : ∀ (m : Nat) (i : Nat), i ≤ N → allB (mdB (M.1 19) (cH M a) (cX M a) (cY M a) (cTX M) (cTY M) (cTZ M) e) i = true → N - i < m → AW X V mX11_hasPainterMade.2.2.1 T0 (M) 0 0 Q 2 [(3, .int (nI i)), (0, .ref 0), (1, .ref (62 + 4 * a)), (2, .int e)] [] := by
  intro m
  induction m with
  | zero => intro i _ _ h; exact absurd h (Nat.not_lt_zero _)
  | succ m ih =>
    intro i hi0 hal hmz
    refine ar_iload_n (n := 0) C dX11_hasPainterMade_2 rfl rfl ?_
    refine ar_aload_n (n := 1) C dX11_hasPainterMade_3 rfl rfl ?_
    refine ar_geti C flX11_28 kd_0 dX11_hasPainterMade_4 ?_
    refine ar_topi (nI N) hN ?_
    refine ar_icmp_ge (tgt := 37) C dX11_hasPainterMade_7 (by decide) (fun c_1 => ?_) (fun c_1 => ?_)
    · have hi : i = N := Nat.le_antisymm hi0 (nat_le c_1 (by omega) (by omega))
      subst hi
      exact k1 hal
    · have hiN : i < N := nat_nle c_1 (by omega) (by omega)
      have hi : i < 24 := by omega
      refine ar_aload_n (n := 2) C dX11_hasPainterMade_10 rfl rfl ?_
      refine ar_getr C flX11_222 rfl (kd_trace ha) (rf_has ha) dX11_hasPainterMade_11 ?_
      refine ar_iload_n (n := 0) C dX11_hasPainterMade_14 rfl rfl ?_
      refine ar_zald (j := i) C (kd_has ha) rfl hi dX11_hasPainterMade_15 ?_
      refine ar_if_eq (tgt := 31) C dX11_hasPainterMade_16 (by decide) (fun c_2 => ?_) (fun c_2 => ?_)
      · refine ar_iinc (n := 0) (v := (nI (i + 1))) (als' := [(3, .int (nI (i + 1))), (0, .ref 0), (1, .ref (62 + 4 * a)), (2, .int e)]) C dX11_hasPainterMade_31 rfl (nI_1 _) (by decide) rfl ?_
        refine ar_goto (tgt := 2) C dX11_hasPainterMade_34 (by decide) ?_
        refine ih (i + 1) (by omega) ?_ (by omega)
        simp only [allB]
        rw [hal]
        unfold mdB
        simp [show cH M a i = 0 from c_2]
      · refine ar_aload_n (n := 1) C dX11_hasPainterMade_19 rfl rfl ?_
        refine ar_aload_n (n := 2) C dX11_hasPainterMade_20 rfl rfl ?_
        refine ar_iload_n (n := 0) C dX11_hasPainterMade_21 rfl rfl ?_
        refine ar_iload_n (n := 3) C dX11_hasPainterMade_22 rfl rfl ?_
        refine cV1 (ar := [.ref (62 + 4 * a), .int (nI i), .int e]) (st := []) C lkX11_412 kd_0 (k_near M ha hi e) (by decide) rfl (Nat.le_of_ble_eq_true rfl) rfl dX11_hasPainterMade_23 ?_
        refine ar_if_neB (tgt := 31) C dX11_hasPainterMade_26 (by decide) (fun c_3 => ?_) (fun c_3 => ?_)
        · refine ar_iinc (n := 0) (v := (nI (i + 1))) (als' := [(3, .int (nI (i + 1))), (0, .ref 0), (1, .ref (62 + 4 * a)), (2, .int e)]) C dX11_hasPainterMade_31 rfl (nI_1 _) (by decide) rfl ?_
          refine ar_goto (tgt := 2) C dX11_hasPainterMade_34 (by decide) ?_
          refine ih (i + 1) (by omega) ?_ (by omega)
          simp only [allB]
          rw [hal]
          unfold mdB
          have c3 : nrB (M.1 19) (cH M a) (cX M a) (cY M a) (cTX M) (cTY M) (cTZ M) e i = true := c_3
          simp [c3]
        · exact k0 _ (allB_no (p := (mdB (M.1 19) (cH M a) (cX M a) (cY M a) (cTX M) (cTY M) (cTZ M) e)) (by have c3 : nrB (M.1 19) (cH M a) (cX M a) (cY M a) (cTX M) (cTY M) (cTZ M) e i = false := c_3; unfold mdB; rw [c3]; simp; exact c_2) N hiN)
set_option maxHeartbeats 4000000 in
set_option maxRecDepth 100000 in
theorem k_made (M : Mm) {a : Nat} (ha : a < 8) {N : Nat} (hN : M.1 0 3 = nI N) (hN24 : N ≤ 24) (e : Int32) : AX mX11_hasPainterMade 3 [.ref 0, .ref (62 + 4 * a), .int e] M (some (.int (bI (allB (mdB (M.1 19) (cH M a) (cX M a) (cY M a) (cTX M) (cTY M) (cTZ M) e) N)))) M := by
  refine AM_ofF (by decide +kernel) (Nat.le_of_ble_eq_true rfl) (fun X V C _ _ => ?_)
  show AW X V mX11_hasPainterMade.2.2.1 T0 M 0 0 _ 0 [(0, .ref 0), (1, .ref (62 + 4 * a)), (2, .int e)] []
  refine ar_iconst (v := 0) C dX11_hasPainterMade_0 (by decide) ?_
  refine ar_istore_n (als' := [(3, .int 0), (0, .ref 0), (1, .ref (62 + 4 * a)), (2, .int e)]) C dX11_hasPainterMade_1 rfl (by decide) rfl ?_
  refine l_made C M ha hN hN24 e (fun h => ?_) (fun als h => ?_) (N + 1) 0 (by omega) rfl (by omega)
  · exact ar_iconst (v := 1) C dX11_hasPainterMade_37 (by decide) (ar_zreturn C rfl rfl dX11_hasPainterMade_38 ⟨by rw [h]; rfl, rfl, rfl⟩)
  · exact ar_iconst (v := 0) C dX11_hasPainterMade_29 (by decide) (ar_zreturn C rfl rfl dX11_hasPainterMade_30 ⟨by rw [h]; rfl, rfl, rfl⟩)
