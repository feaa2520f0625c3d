/-! LENSTABLE: the studios of a row of items -/
/-- the misfit of studio k; whether it made the painting; whether it is near at thing t -/
abbrev sm (M : Mm) (a s i N : Nat) : Nat → Int32 := fun k => mfs (sd (M.1 (23 + 2 * s)) (i + 4 * k)) (cH M a) (cX M a) (cY M a) (cTX M) (cTY M) (cTZ M) N
abbrev sdm (M : Mm) (a s i N : Nat) (e : Int32) : Nat → Bool := fun k => allB (mdB (sd (M.1 (23 + 2 * s)) (i + 4 * k)) (cH M a) (cX M a) (cY M a) (cTX M) (cTY M) (cTZ M) e) N
abbrev snr (M : Mm) (a s i : Nat) (e : Int32) (t : Nat) : Nat → Bool := fun k => nrB (sd (M.1 (23 + 2 * s)) (i + 4 * k)) (cH M a) (cX M a) (cY M a) (cTX M) (cTY M) (cTZ M) e t
theorem Oc_N {M M1 : Mm} {N : Nat} (h : Oc 19 M M1) (hN : M.1 0 3 = nI N) : M1.1 0 3 = nI N := by rw [h.1 0 (by decide)]; exact hN
theorem k_pmR (M M1 : Mm) {a s b N : Nat} (ha : a < 8) (h : Oc 19 M M1) (hN : M.1 0 3 = nI N) (hN24 : N ≤ 24) : AX mX11_painterMisfit 3 [.ref 0, .ref (62 + 4 * a)] (rs M1 s b) (some (.int (mfs (sd (M.1 (23 + 2 * s)) b) (cH M a) (cX M a) (cY M a) (cTX M) (cTY M) (cTZ M) N))) (rs M1 s b) := by
  have k := k_pmis (rs M1 s b) ha (Oc_N (Oc_rs h) hN) hN24
  rw [mfs_rs h] at k
  exact k
theorem k_mdR (M M1 : Mm) {a s b N : Nat} (ha : a < 8) (h : Oc 19 M M1) (hN : M.1 0 3 = nI N) (hN24 : N ≤ 24) (e : Int32) : AX mX11_hasPainterMade 3 [.ref 0, .ref (62 + 4 * a), .int e] (rs M1 s b) (some (.int (bI (allB (mdB (sd (M.1 (23 + 2 * s)) b) (cH M a) (cX M a) (cY M a) (cTX M) (cTY M) (cTZ M) e) N)))) (rs M1 s b) := by
  have k := k_made (rs M1 s b) ha (Oc_N (Oc_rs h) hN) hN24 e
  rw [allB_c (fun t _ => mdB_rs h e t)] at k
  exact k
theorem k_nrR (M M1 : Mm) {a s b t : Nat} (ha : a < 8) (ht : t < 24) (h : Oc 19 M M1) (e : Int32) : AX mX11_isPainterNear 2 [.ref 0, .ref (62 + 4 * a), .int (nI t), .int e] (rs M1 s b) (some (.int (bI (nrB (sd (M.1 (23 + 2 * s)) b) (cH M a) (cX M a) (cY M a) (cTX M) (cTY M) (cTZ M) e t)))) (rs M1 s b) := by
  have k := k_near (rs M1 s b) ha ht e
  have e1 := nrB_rs (a := a) (s := s) (b := b) h e t
  unfold nrB at e1
  rw [show st_near _ _ _ _ _ _ _ _ _ e = _ from e1] at k
  exact k
set_option maxHeartbeats 4000000 in
set_option maxRecDepth 100000 in
theorem l_best {X : Ctx} {V : Vx} {Q : State → Prop} (C : Cx X V mX11_bestStudio 4) (M : Mm) {a : Nat} (ha : a < 8) {s i n : Nat} (hs : s < 8) (hin : i + 4 * n ≤ 80) {N : Nat} (hN : M.1 0 3 = nI N) (hN24 : N ≤ 24) (kk : ∀ M1 kv lv, Oc 19 M M1 → AW X V mX11_bestStudio.2.2.1 T0 M1 0 0 Q 63 [(7, .int kv), (6, .int lv), (5, .int (nI (bst (sm M a s i N) (n - 1)))), (0, .ref 0), (1, .ref (62 + 4 * a)), (2, .int (nI s)), (3, .int (nI i)), (4, .int (nI n))] []) : ∀ (m : Nat) (j : Nat) (M1 : Mm), j + 1 ≤ n → Oc 19 M M1 → n - j < m → AW X V mX11_bestStudio.2.2.1 T0 (M1) 0 0 Q 20 [(7, .int (nI (j + 1))), (6, .int (sm M a s i N (bst (sm M a s i N) j))), (5, .int (nI (bst (sm M a s i N) j))), (0, .ref 0), (1, .ref (62 + 4 * a)), (2, .int (nI s)), (3, .int (nI i)), (4, .int (nI n))] [] := by
  intro m
  induction m with
  | zero => intro j M1 _ _ h; exact absurd h (Nat.not_lt_zero _)
  | succ m ih =>
    intro j M1 hj0 hO hmz
    refine ar_iload (n := 0) C dX11_bestStudio_20 rfl ?_
    refine ar_iload (n := 7) C dX11_bestStudio_22 rfl ?_
    refine ar_icmp_ge (tgt := 63) C dX11_bestStudio_24 (by decide) (fun c_1 => ?_) (fun c_1 => ?_)
    · have hj : n = j + 1 := Nat.le_antisymm (nat_le c_1 (by omega) (by omega)) hj0
      subst hj
      exact kk M1 _ _ hO
    · have hj : j + 1 < n := nat_nle c_1 (by omega) (by omega)
      refine ar_aload_n (n := 3) C dX11_bestStudio_27 rfl rfl ?_
      refine ar_iload_n (n := 5) C dX11_bestStudio_28 rfl rfl ?_
      refine ar_iload_n (n := 6) C dX11_bestStudio_29 rfl rfl ?_
      refine ar_iload (n := 0) C dX11_bestStudio_30 rfl ?_
      refine cV0 (ar := [.int (nI s), .int (nI i), .int (nI (j + 1))]) (st := []) C lkX11_318 kd_0 (k_readStudio M1 (s := s) (i := i) (k := j + 1) hs (by omega)) (by decide) rfl (Nat.le_of_ble_eq_true rfl) rfl dX11_bestStudio_32 ?_
      refine ar_aload_n (n := 3) C dX11_bestStudio_35 rfl rfl ?_
      refine ar_aload_n (n := 4) C dX11_bestStudio_36 rfl rfl ?_
      refine cV1 (ar := [.ref (62 + 4 * a)]) (st := []) C lkX11_321 kd_0 (k_pmR M M1 (s := s) (b := i + 4 * (j + 1)) ha hO hN hN24) (by decide) rfl (Nat.le_of_ble_eq_true rfl) rfl dX11_bestStudio_37 ?_
      refine ar_istore (als' := [(8, .int (sm M a s i N (j + 1))), (7, .int (nI (j + 1))), (6, .int (sm M a s i N (bst (sm M a s i N) j))), (5, .int (nI (bst (sm M a s i N) j))), (0, .ref 0), (1, .ref (62 + 4 * a)), (2, .int (nI s)), (3, .int (nI i)), (4, .int (nI n))]) C dX11_bestStudio_40 (by decide) rfl ?_
      refine ar_iload (n := 0) C dX11_bestStudio_42 rfl ?_
      refine ar_iload (n := 2) C dX11_bestStudio_44 rfl ?_
      refine ar_icmp_ge (tgt := 57) C dX11_bestStudio_46 (by decide) (fun c_2 => ?_) (fun c_2 => ?_)
      · refine ar_iinc (n := 1) (v := (nI (j + 1 + 1))) (als' := [(7, .int (nI (j + 1 + 1))), (8, .int (sm M a s i N (j + 1))), (6, .int (sm M a s i N (bst (sm M a s i N) j))), (5, .int (nI (bst (sm M a s i N) j))), (0, .ref 0), (1, .ref (62 + 4 * a)), (2, .int (nI s)), (3, .int (nI i)), (4, .int (nI n))]) C dX11_bestStudio_57 rfl (nI_1 _) (by decide) rfl ?_
        refine ar_goto (tgt := 20) C dX11_bestStudio_60 (by decide) ?_
        refine ar_sub [0, 2, 3, 4, 5, 6, 7, 8] rfl ?_
        have h := ih (j + 1) (rs M1 s (i + 4 * (j + 1))) (by omega) (Oc_rs hO) (by omega)
        rw [show bst (sm M a s i N) (j + 1) = bst (sm M a s i N) j from by simp only [bst]; rw [if_pos c_2]] at h
        exact h
      · refine ar_iload (n := 0) C dX11_bestStudio_49 rfl ?_
        refine ar_istore (als' := [(6, .int (sm M a s i N (j + 1))), (8, .int (sm M a s i N (j + 1))), (7, .int (nI (j + 1))), (5, .int (nI (bst (sm M a s i N) j))), (0, .ref 0), (1, .ref (62 + 4 * a)), (2, .int (nI s)), (3, .int (nI i)), (4, .int (nI n))]) C dX11_bestStudio_51 (by decide) rfl ?_
        refine ar_iload (n := 2) C dX11_bestStudio_53 rfl ?_
        refine ar_istore (als' := [(5, .int (nI (j + 1))), (6, .int (sm M a s i N (j + 1))), (8, .int (sm M a s i N (j + 1))), (7, .int (nI (j + 1))), (0, .ref 0), (1, .ref (62 + 4 * a)), (2, .int (nI s)), (3, .int (nI i)), (4, .int (nI n))]) C dX11_bestStudio_55 (by decide) rfl ?_
        refine ar_iinc (n := 3) (v := (nI (j + 1 + 1))) (als' := [(7, .int (nI (j + 1 + 1))), (5, .int (nI (j + 1))), (6, .int (sm M a s i N (j + 1))), (8, .int (sm M a s i N (j + 1))), (0, .ref 0), (1, .ref (62 + 4 * a)), (2, .int (nI s)), (3, .int (nI i)), (4, .int (nI n))]) C dX11_bestStudio_57 rfl (nI_1 _) (by decide) rfl ?_
        refine ar_goto (tgt := 20) C dX11_bestStudio_60 (by decide) ?_
        refine ar_sub [0, 2, 1, 4, 5, 6, 7, 8] rfl ?_
        have h := ih (j + 1) (rs M1 s (i + 4 * (j + 1))) (by omega) (Oc_rs hO) (by omega)
        rw [show bst (sm M a s i N) (j + 1) = j + 1 from by simp only [bst]; rw [if_neg c_2]] at h
        exact h
set_option maxHeartbeats 4000000 in
set_option maxRecDepth 100000 in
theorem k_best (M : Mm) {a : Nat} (ha : a < 8) {s i n : Nat} (hs : s < 8) (hin : i + 4 * n ≤ 80) {N : Nat} (hN : M.1 0 3 = nI N) (hN24 : N ≤ 24) (hn1 : 1 ≤ n) : AQ mX11_bestStudio 4 [.ref 0, .ref (62 + 4 * a), .int (nI s), .int (nI i), .int (nI n)] M (some (.int (nI (bst (sm M a s i N) (n - 1))))) (Oc 19 M) := by
  refine AM_ofF (by decide +kernel) (Nat.le_of_ble_eq_true rfl) (fun X V C _ _ => ?_)
  show AW X V mX11_bestStudio.2.2.1 T0 M 0 0 _ 0 [(0, .ref 0), (1, .ref (62 + 4 * a)), (2, .int (nI s)), (3, .int (nI i)), (4, .int (nI n))] []
  refine ar_aload_n (n := 0) C dX11_bestStudio_0 rfl rfl ?_
  refine ar_iload_n (n := 2) C dX11_bestStudio_1 rfl rfl ?_
  refine ar_iload_n (n := 3) C dX11_bestStudio_2 rfl rfl ?_
  refine ar_iconst (v := 0) C dX11_bestStudio_3 (by decide) ?_
  refine cV0 (ar := [.int (nI s), .int (nI i), .int 0]) (st := []) C lkX11_318 kd_0 (k_readStudio M (s := s) (i := i) (k := 0) hs (by omega)) (by decide) rfl (Nat.le_of_ble_eq_true rfl) rfl dX11_bestStudio_4 ?_
  refine ar_iconst (v := 0) C dX11_bestStudio_7 (by decide) ?_
  refine ar_istore (als' := [(5, .int 0), (0, .ref 0), (1, .ref (62 + 4 * a)), (2, .int (nI s)), (3, .int (nI i)), (4, .int (nI n))]) C dX11_bestStudio_8 (by decide) rfl ?_
  refine ar_aload_n (n := 1) C dX11_bestStudio_10 rfl rfl ?_
  refine ar_aload_n (n := 2) C dX11_bestStudio_11 rfl rfl ?_
  refine cV1 (ar := [.ref (62 + 4 * a)]) (st := []) C lkX11_321 kd_0 (k_pmR M M (s := s) (b := i + 4 * 0) ha (Oc_rf 19 M) hN hN24) (by decide) rfl (Nat.le_of_ble_eq_true rfl) rfl dX11_bestStudio_12 ?_
  refine ar_istore (als' := [(6, .int (sm M a s i N 0)), (5, .int 0), (0, .ref 0), (1, .ref (62 + 4 * a)), (2, .int (nI s)), (3, .int (nI i)), (4, .int (nI n))]) C dX11_bestStudio_15 (by decide) rfl ?_
  refine ar_iconst (v := 1) C dX11_bestStudio_17 (by decide) ?_
  refine ar_istore (als' := [(7, .int 1), (6, .int (sm M a s i N 0)), (5, .int 0), (0, .ref 0), (1, .ref (62 + 4 * a)), (2, .int (nI s)), (3, .int (nI i)), (4, .int (nI n))]) C dX11_bestStudio_18 (by decide) rfl ?_
  exact l_best C M ha hs hin hN hN24 (fun M1 kv lv h => ar_iload (n := 2) C dX11_bestStudio_63 rfl (ar_ireturn C rfl dX11_bestStudio_65 ⟨rfl, rfl, h⟩)) (n + 1) 0 _ (by omega) (Oc_rs (Oc_rf 19 M)) (by omega)
set_option maxHeartbeats 4000000 in
set_option maxRecDepth 100000 in
theorem l_thatMade {X : Ctx} {V : Vx} {Q : State → Prop} (C : Cx X V mX11_studiosThatMade 4) (M : Mm) {a : Nat} (ha : a < 8) {s i n : Nat} (hs : s < 8) (hin : i + 4 * n ≤ 80) {N : Nat} (hN : M.1 0 3 = nI N) (hN24 : N ≤ 24) (e : Int32) (kk : ∀ M1, Oc 19 M M1 → AW X V mX11_studiosThatMade.2.2.1 T0 M1 0 0 Q 40 [(7, .int (nI n)), (6, .int (nI (cntB (sdm M a s i N e) n))), (0, .ref 0), (1, .ref (62 + 4 * a)), (2, .int (nI s)), (3, .int (nI i)), (4, .int (nI n)), (5, .int e)] []) : ∀ (m : Nat) (j : Nat) (M1 : Mm), j ≤ n → Oc 19 M M1 → n - j < m → AW X V mX11_studiosThatMade.2.2.1 T0 (M1) 0 0 Q 6 [(7, .int (nI j)), (6, .int (nI (cntB (sdm M a s i N e) j))), (0, .ref 0), (1, .ref (62 + 4 * a)), (2, .int (nI s)), (3, .int (nI i)), (4, .int (nI n)), (5, .int e)] [] := by
  intro m
  induction m with
  | zero => intro j M1 _ _ h; exact absurd h (Nat.not_lt_zero _)
  | succ m ih =>
    intro j M1 hj0 hO hmz
    refine ar_iload (n := 0) C dX11_studiosThatMade_6 rfl ?_
    refine ar_iload (n := 6) C dX11_studiosThatMade_8 rfl ?_
    refine ar_icmp_ge (tgt := 40) C dX11_studiosThatMade_10 (by decide) (fun c_1 => ?_) (fun c_1 => ?_)
    · have hj : j = n := Nat.le_antisymm hj0 (nat_le c_1 (by omega) (by omega))
      subst hj
      exact kk M1 hO
    · have hj : j < n := nat_nle c_1 (by omega) (by omega)
      refine ar_aload_n (n := 2) C dX11_studiosThatMade_13 rfl rfl ?_
      refine ar_iload_n (n := 4) C dX11_studiosThatMade_14 rfl rfl ?_
      refine ar_iload_n (n := 5) C dX11_studiosThatMade_15 rfl rfl ?_
      refine ar_iload (n := 0) C dX11_studiosThatMade_16 rfl ?_
      refine cV0 (ar := [.int (nI s), .int (nI i), .int (nI j)]) (st := []) C lkX11_318 kd_0 (k_readStudio M1 (s := s) (i := i) (k := j) hs (by omega)) (by decide) rfl (Nat.le_of_ble_eq_true rfl) rfl dX11_studiosThatMade_18 ?_
      refine ar_aload_n (n := 2) C dX11_studiosThatMade_21 rfl rfl ?_
      refine ar_aload_n (n := 3) C dX11_studiosThatMade_22 rfl rfl ?_
      refine ar_iload (n := 7) C dX11_studiosThatMade_23 rfl ?_
      refine cV1 (ar := [.ref (62 + 4 * a), .int e]) (st := []) C lkX11_325 kd_0 (k_mdR M M1 (s := s) (b := i + 4 * j) ha hO hN hN24 e) (by decide) rfl (Nat.le_of_ble_eq_true rfl) rfl dX11_studiosThatMade_25 ?_
      refine ar_if_eqB (tgt := 34) C dX11_studiosThatMade_28 (by decide) (fun c_2 => ?_) (fun c_2 => ?_)
      · refine ar_iinc (n := 0) (v := (nI (j + 1))) (als' := [(7, .int (nI (j + 1))), (6, .int (nI (cntB (sdm M a s i N e) j))), (0, .ref 0), (1, .ref (62 + 4 * a)), (2, .int (nI s)), (3, .int (nI i)), (4, .int (nI n)), (5, .int e)]) C dX11_studiosThatMade_34 rfl (nI_1 _) (by decide) rfl ?_
        refine ar_goto (tgt := 6) C dX11_studiosThatMade_37 (by decide) ?_
        have h := ih (j + 1) (rs M1 s (i + 4 * j)) (by omega) (Oc_rs hO) (by omega)
        rw [cntB_n (p := (sdm M a s i N e)) c_2] at h
        exact h
      · refine ar_iinc (n := 1) (v := (nI (cntB (sdm M a s i N e) j + 1))) (als' := [(6, .int (nI (cntB (sdm M a s i N e) j + 1))), (7, .int (nI j)), (0, .ref 0), (1, .ref (62 + 4 * a)), (2, .int (nI s)), (3, .int (nI i)), (4, .int (nI n)), (5, .int e)]) C dX11_studiosThatMade_31 rfl (nI_1 _) (by decide) rfl ?_
        refine ar_iinc (n := 1) (v := (nI (j + 1))) (als' := [(7, .int (nI (j + 1))), (6, .int (nI (cntB (sdm M a s i N e) j + 1))), (0, .ref 0), (1, .ref (62 + 4 * a)), (2, .int (nI s)), (3, .int (nI i)), (4, .int (nI n)), (5, .int e)]) C dX11_studiosThatMade_34 rfl (nI_1 _) (by decide) rfl ?_
        refine ar_goto (tgt := 6) C dX11_studiosThatMade_37 (by decide) ?_
        have h := ih (j + 1) (rs M1 s (i + 4 * j)) (by omega) (Oc_rs hO) (by omega)
        rw [cntB_y (p := (sdm M a s i N e)) c_2] at h
        exact h
set_option maxHeartbeats 4000000 in
set_option maxRecDepth 100000 in
theorem k_thatMade (M : Mm) {a : Nat} (ha : a < 8) {s i n : Nat} (hs : s < 8) (hin : i + 4 * n ≤ 80) {N : Nat} (hN : M.1 0 3 = nI N) (hN24 : N ≤ 24) (e : Int32) : AQ mX11_studiosThatMade 4 [.ref 0, .ref (62 + 4 * a), .int (nI s), .int (nI i), .int (nI n), .int e] M (some (.int (nI (cntB (sdm M a s i N e) n)))) (Oc 19 M) := by
  refine AM_ofF (by decide +kernel) (Nat.le_of_ble_eq_true rfl) (fun X V C _ _ => ?_)
  show AW X V mX11_studiosThatMade.2.2.1 T0 M 0 0 _ 0 [(0, .ref 0), (1, .ref (62 + 4 * a)), (2, .int (nI s)), (3, .int (nI i)), (4, .int (nI n)), (5, .int e)] []
  refine ar_iconst (v := 0) C dX11_studiosThatMade_0 (by decide) ?_
  refine ar_istore (als' := [(6, .int 0), (0, .ref 0), (1, .ref (62 + 4 * a)), (2, .int (nI s)), (3, .int (nI i)), (4, .int (nI n)), (5, .int e)]) C dX11_studiosThatMade_1 (by decide) rfl ?_
  refine ar_iconst (v := 0) C dX11_studiosThatMade_3 (by decide) ?_
  refine ar_istore (als' := [(7, .int 0), (6, .int 0), (0, .ref 0), (1, .ref (62 + 4 * a)), (2, .int (nI s)), (3, .int (nI i)), (4, .int (nI n)), (5, .int e)]) C dX11_studiosThatMade_4 (by decide) rfl ?_
  exact l_thatMade C M ha hs hin hN hN24 e (fun M1 h => ar_iload (n := 1) C dX11_studiosThatMade_40 rfl (ar_ireturn C rfl dX11_studiosThatMade_42 ⟨rfl, rfl, h⟩)) (n + 1) 0 M (by omega) (Oc_rf 19 M) (by omega)
set_option maxHeartbeats 4000000 in
set_option maxRecDepth 100000 in
theorem l_noIn {X : Ctx} {V : Vx} {Q : State → Prop} (C : Cx X V mX11_marksOfNoStudio 4) (M : Mm) {a : Nat} (ha : a < 8) {s i n : Nat} (hs : s < 8) (hin : i + 4 * n ≤ 80) (e : Int32) {t : Nat} (ht : t < 24) (c : Int32) (r : Bool) (kk : ∀ M1 kv, Oc 19 M M1 → AW X V mX11_marksOfNoStudio.2.2.1 T0 M1 0 0 Q 72 [(9, .int kv), (8, .int (bI r)), (7, .int (nI t)), (6, .int c), (0, .ref 0), (1, .ref (62 + 4 * a)), (2, .int (nI s)), (3, .int (nI i)), (4, .int (nI n)), (5, .int e)] []) : ∀ (m : Nat) (j : Nat) (M1 : Mm) (b : Bool), j ≤ n → Oc 19 M M1 → (b = true → r = true) ∧ (b = false → allB (fun k => !(snr M a s i e t k)) j = true ∧ r = !(allB (fun k => !(snr M a s i e t k)) n)) → n - j < m → AW X V mX11_marksOfNoStudio.2.2.1 T0 (M1) 0 0 Q 35 [(9, .int (nI j)), (8, .int (bI b)), (7, .int (nI t)), (6, .int c), (0, .ref 0), (1, .ref (62 + 4 * a)), (2, .int (nI s)), (3, .int (nI i)), (4, .int (nI n)), (5, .int e)] [] := by
  intro m
  induction m with
  | zero => intro j M1 b _ _ _ h; exact absurd h (Nat.not_lt_zero _)
  | succ m ih =>
    intro j M1 b hj0 hO hb hmz
    refine ar_iload (n := 0) C dX11_marksOfNoStudio_35 rfl ?_
    refine ar_iload (n := 8) C dX11_marksOfNoStudio_37 rfl ?_
    refine ar_icmp_ge (tgt := 72) C dX11_marksOfNoStudio_39 (by decide) (fun c_1 => ?_) (fun c_1 => ?_)
    · have hj : j = n := Nat.le_antisymm hj0 (nat_le c_1 (by omega) (by omega))
      subst hj
      have eb : b = r := by
        cases b with
        | true => exact (hb.1 rfl).symm
        | false => rw [(hb.2 rfl).2, (hb.2 rfl).1]; rfl
      rw [eb]
      exact kk M1 _ hO
    · have hj : j < n := nat_nle c_1 (by omega) (by omega)
      refine ar_iload (n := 1) C dX11_marksOfNoStudio_42 rfl ?_
      refine ar_if_neB (tgt := 72) C dX11_marksOfNoStudio_44 (by decide) (fun c_2 => ?_) (fun c_2 => ?_)
      · have eb : b = r := by rw [c_2, hb.1 c_2]
        rw [eb]
        exact kk M1 _ hO
      · refine ar_aload_n (n := 4) C dX11_marksOfNoStudio_47 rfl rfl ?_
        refine ar_iload_n (n := 6) C dX11_marksOfNoStudio_48 rfl rfl ?_
        refine ar_iload_n (n := 7) C dX11_marksOfNoStudio_49 rfl rfl ?_
        refine ar_iload (n := 0) C dX11_marksOfNoStudio_50 rfl ?_
        refine cV0 (ar := [.int (nI s), .int (nI i), .int (nI j)]) (st := []) C lkX11_318 kd_0 (k_readStudio M1 (s := s) (i := i) (k := j) hs (by omega)) (by decide) rfl (Nat.le_of_ble_eq_true rfl) rfl dX11_marksOfNoStudio_52 ?_
        refine ar_aload_n (n := 4) C dX11_marksOfNoStudio_55 rfl rfl ?_
        refine ar_aload_n (n := 5) C dX11_marksOfNoStudio_56 rfl rfl ?_
        refine ar_iload (n := 2) C dX11_marksOfNoStudio_57 rfl ?_
        refine ar_iload (n := 9) C dX11_marksOfNoStudio_59 rfl ?_
        refine cV1 (ar := [.ref (62 + 4 * a), .int (nI t), .int e]) (st := []) C lkX11_412 kd_0 (k_nrR M M1 (s := s) (b := i + 4 * j) ha ht hO e) (by decide) rfl (Nat.le_of_ble_eq_true rfl) rfl dX11_marksOfNoStudio_61 ?_
        refine ar_istore (als' := [(8, .int (bI (snr M a s i e t j))), (9, .int (nI j)), (7, .int (nI t)), (6, .int c), (0, .ref 0), (1, .ref (62 + 4 * a)), (2, .int (nI s)), (3, .int (nI i)), (4, .int (nI n)), (5, .int e)]) C dX11_marksOfNoStudio_64 (by decide) rfl ?_
        refine ar_iinc (n := 1) (v := (nI (j + 1))) (als' := [(9, .int (nI (j + 1))), (8, .int (bI (snr M a s i e t j))), (7, .int (nI t)), (6, .int c), (0, .ref 0), (1, .ref (62 + 4 * a)), (2, .int (nI s)), (3, .int (nI i)), (4, .int (nI n)), (5, .int e)]) C dX11_marksOfNoStudio_66 rfl (nI_1 _) (by decide) rfl ?_
        refine ar_goto (tgt := 35) C dX11_marksOfNoStudio_69 (by decide) ?_
        refine ih (j + 1) _ _ (by omega) (Oc_rs hO) ⟨fun q => ?_, fun q => ?_⟩ (by omega)
        · rw [(hb.2 c_2).2, allB_no (p := (fun k => !(snr M a s i e t k))) (by simp [q]) n hj]; rfl
        · refine ⟨?_, (hb.2 c_2).2⟩
          simp only [allB]
          rw [(hb.2 c_2).1, q]
          rfl
set_option maxHeartbeats 4000000 in
set_option maxRecDepth 100000 in
theorem l_noOut {X : Ctx} {V : Vx} {Q : State → Prop} (C : Cx X V mX11_marksOfNoStudio 4) (M : Mm) {a : Nat} (ha : a < 8) {s i n : Nat} (hs : s < 8) (hin : i + 4 * n ≤ 80) {N : Nat} (hN : M.1 0 3 = nI N) (hN24 : N ≤ 24) (e : Int32) (kk : ∀ M1, Oc 19 M M1 → AW X V mX11_marksOfNoStudio.2.2.1 T0 M1 0 0 Q 86 [(7, .int (nI N)), (6, .int (nI (cntB (fun t => !decide (cH M a t = 0) && allB (fun k => !(snr M a s i e t k)) n) N))), (0, .ref 0), (1, .ref (62 + 4 * a)), (2, .int (nI s)), (3, .int (nI i)), (4, .int (nI n)), (5, .int e)] []) : ∀ (m : Nat) (t : Nat) (M1 : Mm), t ≤ N → Oc 19 M M1 → N - t < m → AW X V mX11_marksOfNoStudio.2.2.1 T0 (M1) 0 0 Q 6 [(7, .int (nI t)), (6, .int (nI (cntB (fun t => !decide (cH M a t = 0) && allB (fun k => !(snr M a s i e t k)) n) t))), (0, .ref 0), (1, .ref (62 + 4 * a)), (2, .int (nI s)), (3, .int (nI i)), (4, .int (nI n)), (5, .int e)] [] := by
  intro m
  induction m with
  | zero => intro t M1 _ _ h; exact absurd h (Nat.not_lt_zero _)
  | succ m ih =>
    intro t M1 ht0 hO hmz
    refine ar_iload (n := 0) C dX11_marksOfNoStudio_6 rfl ?_
    refine ar_aload_n (n := 2) C dX11_marksOfNoStudio_8 rfl rfl ?_
    refine ar_geti C flX11_28 kd_0 dX11_marksOfNoStudio_9 ?_
    refine ar_topi (nI N) (Oc_N hO hN) ?_
    refine ar_icmp_ge (tgt := 86) C dX11_marksOfNoStudio_12 (by decide) (fun c_1 => ?_) (fun c_1 => ?_)
    · have ht : t = N := Nat.le_antisymm ht0 (nat_le c_1 (by omega) (by omega))
      subst ht
      exact kk M1 hO
    · have htN : t < N := nat_nle c_1 (by omega) (by omega)
      have ht : t < 24 := by omega
      refine ar_aload_n (n := 3) C dX11_marksOfNoStudio_15 rfl rfl ?_
      refine ar_getr C flX11_222 rfl (kd_trace ha) (rf_has ha) dX11_marksOfNoStudio_16 ?_
      refine ar_iload (n := 0) C dX11_marksOfNoStudio_19 rfl ?_
      refine ar_zald (j := t) C (kd_has ha) rfl ht dX11_marksOfNoStudio_21 ?_
      refine ar_topi (M.1 (63 + 4 * a) t) (congrFun (hO.1 (63 + 4 * a) (by omega)) t) ?_
      refine ar_if_ne (tgt := 29) C dX11_marksOfNoStudio_22 (by decide) (fun c_2 => ?_) (fun c_2 => ?_)
      · refine ar_iconst (v := 0) C dX11_marksOfNoStudio_29 (by decide) ?_
        refine ar_istore (als' := [(8, .int 0), (7, .int (nI t)), (6, .int (nI (cntB (fun t => !decide (cH M a t = 0) && allB (fun k => !(snr M a s i e t k)) n) t))), (0, .ref 0), (1, .ref (62 + 4 * a)), (2, .int (nI s)), (3, .int (nI i)), (4, .int (nI n)), (5, .int e)]) C dX11_marksOfNoStudio_30 (by decide) rfl ?_
        refine ar_iconst (v := 0) C dX11_marksOfNoStudio_32 (by decide) ?_
        refine ar_istore (als' := [(9, .int 0), (8, .int 0), (7, .int (nI t)), (6, .int (nI (cntB (fun t => !decide (cH M a t = 0) && allB (fun k => !(snr M a s i e t k)) n) t))), (0, .ref 0), (1, .ref (62 + 4 * a)), (2, .int (nI s)), (3, .int (nI i)), (4, .int (nI n)), (5, .int e)]) C dX11_marksOfNoStudio_33 (by decide) rfl ?_
        refine l_noIn C M ha hs hin e ht (nI (cntB (fun t => !decide (cH M a t = 0) && allB (fun k => !(snr M a s i e t k)) n) t)) (!(allB (fun k => !(snr M a s i e t k)) n)) (fun M2 kv hO2 => ?_) (n + 1) 0 M1 false (by omega) hO ⟨fun q => (by cases q), fun _ => ⟨rfl, rfl⟩⟩ (by omega)
        refine ar_iload (n := 1) C dX11_marksOfNoStudio_72 rfl ?_
        refine ar_if_neB (tgt := 80) C dX11_marksOfNoStudio_74 (by decide) (fun c_3 => ?_) (fun c_3 => ?_)
        · refine ar_iinc (n := 2) (v := (nI (t + 1))) (als' := [(7, .int (nI (t + 1))), (9, .int kv), (8, .int (bI (!(allB (fun k => !(snr M a s i e t k)) n)))), (6, .int (nI (cntB (fun t => !decide (cH M a t = 0) && allB (fun k => !(snr M a s i e t k)) n) t))), (0, .ref 0), (1, .ref (62 + 4 * a)), (2, .int (nI s)), (3, .int (nI i)), (4, .int (nI n)), (5, .int e)]) C dX11_marksOfNoStudio_80 rfl (nI_1 _) (by decide) rfl ?_
          refine ar_goto (tgt := 6) C dX11_marksOfNoStudio_83 (by decide) ?_
          refine ar_sub [0, 3, 4, 5, 6, 7, 8, 9] rfl ?_
          have h := ih (t + 1) M2 (by omega) hO2 (by omega)
          rw [cntB_n (p := (fun t => !decide (cH M a t = 0) && allB (fun k => !(snr M a s i e t k)) n)) (by have q := c_3; simp only [Bool.not_eq_true', Bool.not_eq_false'] at q; simp only [q]; simp)] at h
          exact h
        · refine ar_iinc (n := 3) (v := (nI (cntB (fun t => !decide (cH M a t = 0) && allB (fun k => !(snr M a s i e t k)) n) t + 1))) (als' := [(6, .int (nI (cntB (fun t => !decide (cH M a t = 0) && allB (fun k => !(snr M a s i e t k)) n) t + 1))), (9, .int kv), (8, .int (bI (!(allB (fun k => !(snr M a s i e t k)) n)))), (7, .int (nI t)), (0, .ref 0), (1, .ref (62 + 4 * a)), (2, .int (nI s)), (3, .int (nI i)), (4, .int (nI n)), (5, .int e)]) C dX11_marksOfNoStudio_77 rfl (nI_1 _) (by decide) rfl ?_
          refine ar_iinc (n := 3) (v := (nI (t + 1))) (als' := [(7, .int (nI (t + 1))), (6, .int (nI (cntB (fun t => !decide (cH M a t = 0) && allB (fun k => !(snr M a s i e t k)) n) t + 1))), (9, .int kv), (8, .int (bI (!(allB (fun k => !(snr M a s i e t k)) n)))), (0, .ref 0), (1, .ref (62 + 4 * a)), (2, .int (nI s)), (3, .int (nI i)), (4, .int (nI n)), (5, .int e)]) C dX11_marksOfNoStudio_80 rfl (nI_1 _) (by decide) rfl ?_
          refine ar_goto (tgt := 6) C dX11_marksOfNoStudio_83 (by decide) ?_
          refine ar_sub [0, 1, 4, 5, 6, 7, 8, 9] rfl ?_
          have h := ih (t + 1) M2 (by omega) hO2 (by omega)
          rw [cntB_y (p := (fun t => !decide (cH M a t = 0) && allB (fun k => !(snr M a s i e t k)) n)) (by have q := c_3; simp only [Bool.not_eq_true', Bool.not_eq_false'] at q; simp only [q]; simp; exact c_2)] at h
          exact h
      · refine ar_iconst (v := 1) C dX11_marksOfNoStudio_25 (by decide) ?_
        refine ar_goto (tgt := 30) C dX11_marksOfNoStudio_26 (by decide) ?_
        refine ar_istore (als' := [(8, .int 1), (7, .int (nI t)), (6, .int (nI (cntB (fun t => !decide (cH M a t = 0) && allB (fun k => !(snr M a s i e t k)) n) t))), (0, .ref 0), (1, .ref (62 + 4 * a)), (2, .int (nI s)), (3, .int (nI i)), (4, .int (nI n)), (5, .int e)]) C dX11_marksOfNoStudio_30 (by decide) rfl ?_
        refine ar_iconst (v := 0) C dX11_marksOfNoStudio_32 (by decide) ?_
        refine ar_istore (als' := [(9, .int 0), (8, .int 1), (7, .int (nI t)), (6, .int (nI (cntB (fun t => !decide (cH M a t = 0) && allB (fun k => !(snr M a s i e t k)) n) t))), (0, .ref 0), (1, .ref (62 + 4 * a)), (2, .int (nI s)), (3, .int (nI i)), (4, .int (nI n)), (5, .int e)]) C dX11_marksOfNoStudio_33 (by decide) rfl ?_
        refine l_noIn C M ha hs hin e ht (nI (cntB (fun t => !decide (cH M a t = 0) && allB (fun k => !(snr M a s i e t k)) n) t)) true (fun M2 kv hO2 => ?_) (n + 1) 0 M1 true (by omega) hO ⟨fun _ => rfl, fun q => by cases q⟩ (by omega)
        refine ar_iload (n := 1) C dX11_marksOfNoStudio_72 rfl ?_
        refine ar_if_neB (tgt := 80) C dX11_marksOfNoStudio_74 (by decide) (fun c_4 => ?_) (fun c_4 => ?_)
        · refine ar_iinc (n := 2) (v := (nI (t + 1))) (als' := [(7, .int (nI (t + 1))), (9, .int kv), (8, .int (bI true)), (6, .int (nI (cntB (fun t => !decide (cH M a t = 0) && allB (fun k => !(snr M a s i e t k)) n) t))), (0, .ref 0), (1, .ref (62 + 4 * a)), (2, .int (nI s)), (3, .int (nI i)), (4, .int (nI n)), (5, .int e)]) C dX11_marksOfNoStudio_80 rfl (nI_1 _) (by decide) rfl ?_
          refine ar_goto (tgt := 6) C dX11_marksOfNoStudio_83 (by decide) ?_
          refine ar_sub [0, 3, 4, 5, 6, 7, 8, 9] rfl ?_
          have h := ih (t + 1) M2 (by omega) hO2 (by omega)
          rw [cntB_n (p := (fun t => !decide (cH M a t = 0) && allB (fun k => !(snr M a s i e t k)) n)) (by simp [show M.1 (63 + 4 * a) t = 0 from c_2])] at h
          exact h
        · refine ar_iinc (n := 3) (v := (nI (cntB (fun t => !decide (cH M a t = 0) && allB (fun k => !(snr M a s i e t k)) n) t + 1))) (als' := [(6, .int (nI (cntB (fun t => !decide (cH M a t = 0) && allB (fun k => !(snr M a s i e t k)) n) t + 1))), (9, .int kv), (8, .int (bI true)), (7, .int (nI t)), (0, .ref 0), (1, .ref (62 + 4 * a)), (2, .int (nI s)), (3, .int (nI i)), (4, .int (nI n)), (5, .int e)]) C dX11_marksOfNoStudio_77 rfl (nI_1 _) (by decide) rfl ?_
          refine ar_iinc (n := 3) (v := (nI (t + 1))) (als' := [(7, .int (nI (t + 1))), (6, .int (nI (cntB (fun t => !decide (cH M a t = 0) && allB (fun k => !(snr M a s i e t k)) n) t + 1))), (9, .int kv), (8, .int (bI true)), (0, .ref 0), (1, .ref (62 + 4 * a)), (2, .int (nI s)), (3, .int (nI i)), (4, .int (nI n)), (5, .int e)]) C dX11_marksOfNoStudio_80 rfl (nI_1 _) (by decide) rfl ?_
          refine ar_goto (tgt := 6) C dX11_marksOfNoStudio_83 (by decide) ?_
          refine ar_sub [0, 1, 4, 5, 6, 7, 8, 9] rfl ?_
          have h := ih (t + 1) M2 (by omega) hO2 (by omega)
          rw [cntB_y (p := (fun t => !decide (cH M a t = 0) && allB (fun k => !(snr M a s i e t k)) n)) (by cases c_4)] at h
          exact h
set_option maxHeartbeats 4000000 in
set_option maxRecDepth 100000 in
theorem k_noSt (M : Mm) {a : Nat} (ha : a < 8) {s i n : Nat} (hs : s < 8) (hin : i + 4 * n ≤ 80) {N : Nat} (hN : M.1 0 3 = nI N) (hN24 : N ≤ 24) (e : Int32) : AQ mX11_marksOfNoStudio 4 [.ref 0, .ref (62 + 4 * a), .int (nI s), .int (nI i), .int (nI n), .int e] M (some (.int (nI (cntB (fun t => !decide (cH M a t = 0) && allB (fun k => !(snr M a s i e t k)) n) N)))) (Oc 19 M) := by
  refine AM_ofF (by decide +kernel) (Nat.le_of_ble_eq_true rfl) (fun X V C _ _ => ?_)
  show AW X V mX11_marksOfNoStudio.2.2.1 T0 M 0 0 _ 0 [(0, .ref 0), (1, .ref (62 + 4 * a)), (2, .int (nI s)), (3, .int (nI i)), (4, .int (nI n)), (5, .int e)] []
  refine ar_iconst (v := 0) C dX11_marksOfNoStudio_0 (by decide) ?_
  refine ar_istore (als' := [(6, .int 0), (0, .ref 0), (1, .ref (62 + 4 * a)), (2, .int (nI s)), (3, .int (nI i)), (4, .int (nI n)), (5, .int e)]) C dX11_marksOfNoStudio_1 (by decide) rfl ?_
  refine ar_iconst (v := 0) C dX11_marksOfNoStudio_3 (by decide) ?_
  refine ar_istore (als' := [(7, .int 0), (6, .int 0), (0, .ref 0), (1, .ref (62 + 4 * a)), (2, .int (nI s)), (3, .int (nI i)), (4, .int (nI n)), (5, .int e)]) C dX11_marksOfNoStudio_4 (by decide) rfl ?_
  exact l_noOut C M ha hs hin hN hN24 e (fun M1 h => ar_iload (n := 1) C dX11_marksOfNoStudio_86 rfl (ar_ireturn C rfl dX11_marksOfNoStudio_88 ⟨rfl, rfl, h⟩)) (N + 1) 0 M (by omega) (Oc_rf 19 M) (by omega)
