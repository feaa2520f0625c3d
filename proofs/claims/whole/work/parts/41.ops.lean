/-! THE OPERATIONS, 4: asks, counts, studios -/
theorem Rel_ask {M Mz : Mm} (hR : Rel M) (h : ∀ c, c ≠ 7 → c ≠ 20 → c ≠ 21 → c ≠ 96 → c ≠ 112 → Mz.1 c = M.1 c) (h9 : ∀ j, j ≠ 0 → j ≠ 28 → Mz.1 96 j = M.1 96 j) (r6 : R6 Mz) : Rel Mz := by
  obtain ⟨⟨r1, r2, r3, r4, r5, -, r8⟩, st⟩ := hR
  have k := fun c (x1 : c ≠ 7) (x2 : c < 20 ∨ 21 < c) (x3 : c ≠ 96) (x4 : c ≠ 112) => h c x1 (by omega) (by omega) x3 x4
  exact ⟨⟨R1_f (by rw [k 0 (by omega) (by omega) (by omega) (by omega)]) (h9 7 (by omega) (by omega)) (fun c hc => k c (by omega) (by omega) (by omega) (by omega)) r1, R2_f (k 3 (by omega) (by omega) (by omega) (by omega)) (k 4 (by omega) (by omega) (by omega) (by omega)) (k 100 (by omega) (by omega) (by omega) (by omega)) (k 101 (by omega) (by omega) (by omega) (by omega)) r2, R3_f (fun c hc => k c (by omega) (by omega) (by omega) (by omega)) r3, R4_f (fun c hc => k c (by omega) (by omega) (by omega) (by omega)) r4,
    R5_f (k 94 (by omega) (by omega) (by omega) (by omega)) (k 95 (by omega) (by omega) (by omega) (by omega)) (k 111 (by omega) (by omega) (by omega) (by omega)) r5, r6, by rw [k 15 (by omega) (by omega) (by omega) (by omega)]; exact r8.1, by rw [k 16 (by omega) (by omega) (by omega) (by omega)]; exact r8.2⟩, by rw [k 0 (by omega) (by omega) (by omega) (by omega), h9 1 (by omega) (by omega)]; exact st⟩
/-- what an ask has changed of M -/
def AK (M A : Mm) (n : Nat) (f : Nat → Int32) : Prop := (∀ c, c ≠ 7 → c ≠ 20 → c ≠ 21 → A.1 c = M.1 c) ∧ A.1 20 1 = nI n ∧ A.1 21 = f
def MK (A B : Mm) (n : Nat) (f : Nat → Int32) : Prop := (∀ c, c ≠ 96 → c ≠ 112 → B.1 c = A.1 c) ∧ (∀ j, j ≠ 0 → j ≠ 28 → B.1 96 j = A.1 96 j) ∧ B.1 96 28 = nI n ∧ B.1 112 = f
theorem AK_0 (M : Mm) (i : Nat) : AK M (askM M i) 0 (M.1 21) := by
  refine ⟨fun c c1 c2 c3 => ?_, ?_, ?_⟩
  · exact (wi_c c2).trans ((wi_c c2).trans ((wi_c c2).trans ((wi_c c2).trans (pic_c c1))))
  · exact (wi_r (by omega)).trans ((wi_r (by omega)).trans ((wi_r (by omega)).trans wi_s))
  · exact (wi_c (by omega)).trans ((wi_c (by omega)).trans ((wi_c (by omega)).trans ((wi_c (by omega)).trans (pic_c (by omega)))))
theorem AK_s {M A : Mm} {n : Nat} {f : Nat → Int32} (h : AK M A n f) (v : Int32) : AK M (bg A n v) (n + 1) (upd f n v) := by
  refine ⟨fun c c1 c2 c3 => (wi_c c2).trans ((wi_c c3).trans (h.1 c c1 c2 c3)), wi_s, ?_⟩
  rw [← h.2.2]
  exact (wi_c (by omega)).trans (wi_upd A 21 n v)
theorem MK_0 (A : Mm) : MK A (wi (wi A 96 0 0) 96 28 0) 0 (A.1 112) :=
  ⟨fun c c1 c2 => (wi_c c1).trans (wi_c c1), fun j j1 j2 => (wi_r (by omega)).trans (wi_r (by omega)), wi_s, (wi_c (by omega)).trans (wi_c (by omega))⟩
theorem MK_s {A B : Mm} {n : Nat} {f : Nat → Int32} (h : MK A B n f) (v : Int32) : MK A (mbg B n v) (n + 1) (upd f n v) := by
  refine ⟨fun c c1 c2 => (wi_c c1).trans ((wi_c c2).trans (h.1 c c1 c2)), fun j j1 j2 => (wi_r (by omega)).trans ((wi_r (by omega)).trans (h.2.1 j j1 j2)), wi_s, ?_⟩
  rw [← h.2.2.2]
  exact (wi_c (by omega)).trans (wi_upd B 112 n v)
theorem ask_Rel {M A B : Mm} {n : Nat} {f g : Nat → Int32} (hR : Rel M) (h : AK M A n f) (k : MK A B n g) (e : g = f) (hn : n ≤ 16) : Rel B := by
  obtain ⟨h1, h2, h3⟩ := h
  obtain ⟨k1, k2, k3, k4⟩ := k
  refine Rel_ask hR (fun c c1 c2 c3 c4 c5 => (k1 c c4 c5).trans (h1 c c1 c2 c3)) (fun j j1 j2 => (k2 j j1 j2).trans (by rw [h1 96 (by omega) (by omega) (by omega)])) ⟨?_, ?_, n, hn, ?_⟩
  · rw [k3, k1 20 (by omega) (by omega), h2]
  · rw [k4, k1 21 (by omega) (by omega), h3, e]
  · rw [k1 20 (by omega) (by omega), h2]
theorem kd_123 (ρ β : Nat → Int32) (x y z : Int32) : P_kind ρ β x y z = 1 ∨ P_kind ρ β x y z = 2 ∨ P_kind ρ β x y z = 3 := by
  unfold P_kind
  by_cases h : P_shows ρ β x y z = true
  · rw [if_pos h]
    by_cases g : ρ 4 < P_blur ρ β x z
    · rw [if_pos g]; exact Or.inl rfl
    · rw [if_neg g]; exact Or.inr (Or.inl rfl)
  · rw [if_neg h]; exact Or.inr (Or.inr rfl)
theorem AK_MA {M A : Mm} {n N : Nat} {f : Nat → Int32} (h : AK M A n f) (hMA : ∀ M1, M1.1 96 7 = M.1 96 7 → (∀ c, 100 ≤ c → c ≤ 104 → M1.1 c = M.1 c) → MA M1 N (M.1 3) (M.1 4) (cTX M) (cTY M) (cTZ M)) : MA A N (M.1 3) (M.1 4) (cTX M) (cTY M) (cTZ M) := hMA A (by rw [h.1 96 (by omega) (by omega) (by omega)]) (fun c _ _ => h.1 c (by omega) (by omega) (by omega))
theorem op_ask {M : Mm} (hR : Rel M) (t w : Int32) : OPi mX11_ask mX12_ask 6 6 [.int t, .int w] M := by
  obtain ⟨N, hN, hN24, h7, hT, hE, hMA⟩ := gT2 hR.1
  cases hb : (f_in t 0 (nI N - 1) && f_in w 0 1)
  · exact OPi_b hR (x_ask_bad M t w (by rw [hN]; exact hb)) (m_ask_bad M t w (by rw [h7]; exact hb))
  · obtain ⟨ht, hw⟩ := and_ff.mp hb
    obtain ⟨i, hi, rfl⟩ := inN_nat hN24 ht
    rcases w01 hw with rfl | rfl
    · rcases kd_123 (M.1 3) (M.1 4) (M.1 (38 + i) 0) (M.1 (38 + i) 1) (M.1 (38 + i) 2) with hk | hk | hk
      · have ak := (AK_s (AK_s (AK_0 M i) 11) 10)
        have hm2 := m_ask_0_1 _ (AK_MA ak hMA).1 hi hN24 ((AK_MA ak hMA).2.2 i hi) hk
        refine OPi_X (x_ask_0_1 M hN hi hN24 hk) hm2 (ask_Rel hR ak (MK_s (MK_s (MK_0 _) 11) 10) ?_ (by omega))
        rw [ak.1 112 (by omega) (by omega) (by omega), hR.1.2.2.2.2.2.1.2.1]
      · have ak := (AK_s (AK_s (AK_s (AK_0 M i) 12) 11) 10)
        have hm2 := m_ask_0_2 _ (AK_MA ak hMA).1 hi hN24 ((AK_MA ak hMA).2.2 i hi) hk
        refine OPi_X (x_ask_0_2 M hN hi hN24 hk) hm2 (ask_Rel hR ak (MK_s (MK_s (MK_s (MK_0 _) 12) 11) 10) ?_ (by omega))
        rw [ak.1 112 (by omega) (by omega) (by omega), hR.1.2.2.2.2.2.1.2.1]
      · have ak := (AK_s (AK_s (AK_s (AK_s (AK_0 M i) 13) 10) 23) 20)
        have hm2 := m_ask_0_3 _ (AK_MA ak hMA).1 hi hN24 ((AK_MA ak hMA).2.2 i hi) hk
        refine OPi_X (x_ask_0_3 M hN hi hN24 hk) hm2 (ask_Rel hR ak (MK_s (MK_s (MK_s (MK_s (MK_0 _) 13) 10) 23) 20) ?_ (by omega))
        rw [ak.1 112 (by omega) (by omega) (by omega), hR.1.2.2.2.2.2.1.2.1]
    · rcases kd_123 (M.1 3) (M.1 4) (M.1 (38 + i) 0) (M.1 (38 + i) 1) (M.1 (38 + i) 2) with hk | hk | hk
      · have ak := (AK_s (AK_s (AK_0 M i) 21) 20)
        have hm2 := m_ask_1_1 _ (AK_MA ak hMA).1 hi hN24 ((AK_MA ak hMA).2.2 i hi) hk
        rw [Int32.add_zero] at hm2
        refine OPi_X (x_ask_1_1 M hN hi hN24 hk) hm2 (ask_Rel hR ak (MK_s (MK_s (MK_0 _) 21) 20) ?_ (by omega))
        rw [ak.1 112 (by omega) (by omega) (by omega), hR.1.2.2.2.2.2.1.2.1]
      · have ak := (AK_s (AK_s (AK_s (AK_s (AK_s (AK_s (AK_0 M i) 22) 21) 20) 12) 11) 10)
        have hm2 := m_ask_1_2 _ (AK_MA ak hMA).1 hi hN24 ((AK_MA ak hMA).2.2 i hi) hk
        refine OPi_X (x_ask_1_2 M hN hi hN24 hk) hm2 (ask_Rel hR ak (MK_s (MK_s (MK_s (MK_s (MK_s (MK_s (MK_0 _) 22) 21) 20) 12) 11) 10) ?_ (by omega))
        rw [ak.1 112 (by omega) (by omega) (by omega), hR.1.2.2.2.2.2.1.2.1]
      · have ak := (AK_s (AK_s (AK_0 M i) 23) 20)
        have hm2 := m_ask_1_3 _ (AK_MA ak hMA).1 hi hN24 ((AK_MA ak hMA).2.2 i hi) hk
        refine OPi_X (x_ask_1_3 M hN hi hN24 hk) hm2 (ask_Rel hR ak (MK_s (MK_s (MK_0 _) 23) 20) ?_ (by omega))
        rw [ak.1 112 (by omega) (by omega) (by omega), hR.1.2.2.2.2.2.1.2.1]
theorem op_trace {M : Mm} (hR : Rel M) (w : Int32) : OPi mX11_trace mX12_trace 1 1 [.int w] M := by
  obtain ⟨e1, e2, t, ht, e3⟩ := hR.1.2.2.2.2.2.1
  cases hb : f_in w 0 (nI t - 1)
  · exact OPi_b hR (x_trace_no M w (by rw [e3]; exact hb)) (m_trace_no M w (by rw [e1, e3]; exact hb))
  · obtain ⟨j, hj, rfl⟩ := inN_nat (N := t) (by omega) hb
    have hm2 := m_trace_ok M (j := j) (by omega) (by rw [e1, e3]; exact hb)
    rw [congrFun e2 j] at hm2
    exact OPi_b hR (x_trace_ok M (j := j) (by omega) (by rw [e3]; exact hb)) hm2
/-! counts -/
theorem cnt_B (f : Nat → Int32) : ∀ n, cnt f n = cntB (fun t => !decide (f t = 0)) n
  | 0 => rfl
  | n + 1 => by
    simp only [cnt, cntB]
    rw [cnt_B f n]
    by_cases h : f n = 0
    · simp [h]
    · simp [h]
theorem cntB_cat (P : Nat → Bool) (a : Nat) : ∀ n, cntB P (a + n) = cntB P a + cntB (fun t => P (a + t)) n
  | 0 => rfl
  | n + 1 => by
    show cntB P (a + n) + (if P (a + n) = true then 1 else 0) = _
    rw [cntB_cat P a n]
    simp only [cntB]
    omega
theorem cntB_sum (P : Nat → Bool) : ∀ n, cntB P (24 * n) = sumN (fun a => cntB (fun t => P (24 * a + t)) 24) n
  | 0 => rfl
  | n + 1 => by
    show cntB P (24 * n + 24) = _
    rw [cntB_cat, cntB_sum P n]
    rfl
theorem sumN_c {f g : Nat → Nat} : ∀ n, (∀ i, i < n → f i = g i) → sumN f n = sumN g n
  | 0, _ => rfl
  | n + 1, h => by
    simp only [sumN]
    rw [sumN_c n (fun i hi => h i (by omega)), h n (by omega)]
theorem cnt_all (f : Nat → Int32) : ∀ n, (!decide (cnt f n = 0)) = !(allB (fun k => decide (f k = 0)) n)
  | 0 => rfl
  | n + 1 => by
    have h := cnt_all f n
    show (!decide (cnt f n + (if f n = 0 then 0 else 1) = 0)) = !(allB (fun k => decide (f k = 0)) n && decide (f n = 0))
    by_cases q : f n = 0
    · rw [if_pos q, decide_eq_true q, Bool.and_true]; exact h
    · rw [if_neg q, decide_eq_false q, Bool.and_false, decide_eq_false (by omega)]
theorem cntB_or {p q r : Nat → Bool} (h : ∀ i, r i = (p i || q i)) (g : ∀ i, (p i && q i) = false) : ∀ n, cntB p n + cntB q n = cntB r n
  | 0 => rfl
  | n + 1 => by
    have e := cntB_or h g n
    have h1 := h n
    have g1 := g n
    simp only [cntB]
    rw [h1]
    cases a : p n <;> cases b : q n <;> simp_all <;> omega
theorem is_1 (x : Int32) : f_isOf x 1 = (decide (x = 1) || decide (x = 2)) := by
  unfold f_isOf
  by_cases a : x = 1
  · subst a; decide
  · by_cases b : x = 2
    · subst b; decide
    · simp [a, b, Ne.symm a, eq_comm]
theorem is_2 (x : Int32) : f_isOf x 2 = decide (x = 2) := by
  unfold f_isOf
  by_cases b : x = 2
  · subst b; decide
  · simp [b, eq_comm]
theorem is_3 (x : Int32) : f_isOf x 3 = decide (x = 3) := by
  unfold f_isOf
  by_cases b : x = 3
  · subst b; decide
  · simp [b, eq_comm]
theorem op_count {M : Mm} (hR : Rel M) (w : Int32) : OPi mX11_count mX12_count 5 6 [.int w] M := by
  cases hb : f_in w 0 7
  · exact OPi_b hR (x_count_bad M w hb) (m_count_bad M w hb)
  · obtain ⟨N, hN, hN24, h7, hT, hE, hMA⟩ := gT2 hR.1
    have r4 := hR.1.2.2.2.1
    have q7 : ∀ M1, Oc 7 M M1 → Qs M M1 := fun M1 e => Qs_Oc e (Or.inl rfl)
    have z2 : ∀ M1 M2 : Mm, M2 = wi M1 96 0 0 → Qs M1 M2 := fun M1 M2 e => by rw [e]; exact Qs_t0 (Qs_rf _)
    rcases w07 hb with rfl | rfl | rfl | rfl | rfl | rfl | rfl | rfl
    · have hm2 := m_count_0 M
      rw [cntB_c (q := fun s => !decide (M.1 (22 + 2 * s) 1 = -1)) (fun s hs => by
        have l := hR.1.2.2.1 s hs
        rw [l.1]
        rcases lane_n (l.2.imp id (fun q => q.1)) with ⟨d1, d2⟩ | ⟨d1, d2⟩
        · rw [d1, decide_eq_true d2]
        · rw [d1, decide_eq_false d2])] at hm2
      exact OPi_b hR (x_count_0 M) hm2
    · have hm2 := m_count_1 M
      rw [h7, ← hN] at hm2
      exact OPi_b hR (x_count_1 M) hm2
    · have hx := x_count_2 M hN hN24
      rw [nI_add, cntB_or (r := fun i => f_isOf (KK M i) 1) (fun i => is_1 _) (fun i => by
        by_cases a : KK M i = 1
        · rw [a]; rfl
        · rw [decide_eq_false a]; rfl)] at hx
      exact OPi_q hR hx q7 (P2 := fun M1 M2 => M2 = wi M1 96 0 0) (fun M1 q => m_count_2 M1 (Q0_MA hMA q.1)) z2
    · have hx := x_count_3 M hN hN24
      rw [cntB_c (q := fun i => f_isOf (KK M i) 2) (fun i _ => (is_2 _).symm)] at hx
      exact OPi_q hR hx q7 (P2 := fun M1 M2 => M2 = wi M1 96 0 0) (fun M1 q => m_count_3 M1 (Q0_MA hMA q.1)) z2
    · have hx := x_count_4 M hN hN24
      rw [cntB_c (q := fun i => f_isOf (KK M i) 3) (fun i _ => (is_3 _).symm)] at hx
      exact OPi_q hR hx q7 (P2 := fun M1 M2 => M2 = wi M1 96 0 0) (fun M1 q => m_count_4 M1 (Q0_MA hMA q.1)) z2
    · have hm2 := m_count_5 M
      rw [show (192 : Nat) = 24 * 8 from rfl, cntB_sum, sumN_c (g := fun a => cnt (M.1 (63 + 4 * a)) 24) 8 (fun a ha => by
        rw [cnt_B]
        exact cntB_c (fun t ht => by rw [(r4 a ha t ht).1]))] at hm2
      exact OPi_b hR (x_count_5 M) hm2
    · have hm2 := m_count_6 M
      rw [cntB_c (q := fun a => !decide (cnt (M.1 (63 + 4 * a)) 24 = 0)) (fun a ha => by
        rw [cnt_all]
        congr 1
        exact allB_c (fun t ht => by rw [(r4 a ha t ht).1]))] at hm2
      exact OPi_b hR (x_count_6 M) hm2
    · have hm2 := m_count_7 M
      rw [hR.1.2.1.2.1, ← cnt_B] at hm2
      exact OPi_b hR (x_count_7 M) hm2
/-! studios -/
theorem mfs_c {s s2 h h2 mx mx2 my my2 tx tx2 ty ty2 tz tz2 : Nat → Int32} (e0 : ∀ j, j < 4 → s j = s2 j) : ∀ n, (∀ t, t < n → h t = h2 t ∧ mx t = mx2 t ∧ my t = my2 t ∧ tx t = tx2 t ∧ ty t = ty2 t ∧ tz t = tz2 t) → mfs s h mx my tx ty tz n = mfs s2 h2 mx2 my2 tx2 ty2 tz2 n
  | 0, _ => rfl
  | n + 1, e => by
    obtain ⟨a1, a2, a3, a4, a5, a6⟩ := e n (by omega)
    simp only [mfs]
    rw [mfs_c e0 n (fun t ht => e t (by omega)), a1, a2, a3, a4, a5, a6, e0 0 (by omega), e0 1 (by omega), e0 2 (by omega), e0 3 (by omega)]
theorem nrB_c {s s2 h h2 mx mx2 my my2 tx tx2 ty ty2 tz tz2 : Nat → Int32} {e : Int32} {t : Nat} (e0 : ∀ j, j < 4 → s j = s2 j) (e1 : h t = h2 t ∧ mx t = mx2 t ∧ my t = my2 t ∧ tx t = tx2 t ∧ ty t = ty2 t ∧ tz t = tz2 t) : nrB s h mx my tx ty tz e t = nrB s2 h2 mx2 my2 tx2 ty2 tz2 e t := by
  obtain ⟨a1, a2, a3, a4, a5, a6⟩ := e1
  unfold nrB
  rw [a2, a3, a4, a5, a6, e0 0 (by omega), e0 1 (by omega), e0 2 (by omega), e0 3 (by omega)]
theorem mdB_c {s s2 h h2 mx mx2 my my2 tx tx2 ty ty2 tz tz2 : Nat → Int32} {e : Int32} {t : Nat} (e0 : ∀ j, j < 4 → s j = s2 j) (e1 : h t = h2 t ∧ mx t = mx2 t ∧ my t = my2 t ∧ tx t = tx2 t ∧ ty t = ty2 t ∧ tz t = tz2 t) : mdB s h mx my tx ty tz e t = mdB s2 h2 mx2 my2 tx2 ty2 tz2 e t := by
  unfold mdB
  rw [nrB_c e0 e1, e1.1]
theorem bst_c {m m2 : Nat → Int32} : ∀ k, (∀ j, j ≤ k → m j = m2 j) → bst m k = bst m2 k
  | 0, _ => rfl
  | k + 1, e => by
    simp only [bst]
    rw [bst_c k (fun j hj => e j (by omega)), e (k + 1) (by omega), e (bst m2 k) (Nat.le_succ_of_le (bst_le m2 k))]
theorem OPi_s2 {fx fm : MB} {dx dm : Nat} {ar : List Value} {M : Mm} {v n : Int32} (hR : Rel M) (hx : AX fx dx (.ref 0 :: ar) M (some (.int v)) (wi M 0 12 n)) (hm : ∀ M1, Q0 M M1 → AX fm dm (.ref 96 :: ar) M1 (some (.int v)) (wi (wi M1 96 0 0) 96 1 n)) : OPi fx fm dx dm ar M :=
  OPi_X hx (hm _ (Q0_w0 (Q0_rf M))) ⟨Q0_Rel0 (Q0_w96 (Q0_w96 (Q0_w0 (Q0_rf M)) (by omega)) (by omega)) hR.1, ((wi_r (by omega)).trans ((wi_r (by omega)).trans wi_s)).trans wi_s.symm⟩
theorem Q0_SQ {M M1 : Mm} {v : Int32} (h : SQ M v M1) : Q0 M M1 ∧ M1.1 0 12 = v ∧ M1.1 96 1 = M.1 96 1 := ⟨⟨fun k hk => h.1 k (by unfold cc at hk; omega) (by unfold cc at hk; omega), h.2.1 3 (by omega), by rw [h.1 96 (by omega) (by omega)], by rw [h.1 96 (by omega) (by omega)], by rw [h.1 20 (by omega) (by omega)], fun q => by rw [h.1 15 (by omega) (by omega)]; exact q, fun q => by rw [h.1 16 (by omega) (by omega)]; exact q⟩, h.2.2, by rw [h.1 96 (by omega) (by omega)]⟩
theorem OPi_no {fx fm : MB} {dx dm : Nat} {ar : List Value} {M : Mm} {v : Int32} (hR : Rel M) (hx : AQ fx dx (.ref 0 :: ar) M (some (.int v)) (SQ M (M.1 0 12))) (hm : ∀ M1, Q0 M M1 → AX fm dm (.ref 96 :: ar) M1 (some (.int v)) (wi M1 96 0 0)) : OPi fx fm dx dm ar M :=
  ⟨v, _, hx, fun M1 e => AQ_wk (P := fun M' => M' = wi M1 96 0 0) (hm M1 (Q0_SQ e).1) (fun M' e2 => by rw [e2]; exact Qs_Rel (Qs_t0 (Q0_SQ e)) hR)⟩
theorem OPi_ok {fx fm : MB} {dx dm : Nat} {ar : List Value} {M : Mm} {v : Int32} (hR : Rel M) (hx : AQ fx dx (.ref 0 :: ar) M (some (.int v)) (SQ M 0)) (hm : ∀ M1, Q0 M M1 → AQ fm dm (.ref 96 :: ar) M1 (some (.int v)) (PF (wi (wi M1 96 0 0) 96 1 0))) : OPi fx fm dx dm ar M :=
  ⟨v, _, hx, fun M1 e => AQ_wk (hm M1 (Q0_SQ e).1) (fun M' e2 => by
    obtain ⟨p1, p2, p3⟩ := Q0_PF e2
    obtain ⟨s1, s2, s3⟩ := Q0_SQ e
    exact Rel_st hR (Q0_tr (Q0_w96 (Q0_w96 s1 (by omega)) (by omega)) p1) (p2.trans (((wi_r (by omega)).trans ((wi_r (by omega)).trans s2)).trans (p3.trans wi_s).symm)))⟩
theorem n20 {n : Int32} (h : f_in n 1 20 = true) : ∃ k, 1 ≤ k ∧ k ≤ 20 ∧ n = nI k := by
  have h1 := (in_iff _ _ _).mp h
  rw [show (1 : Int32).toInt = 1 by decide, show (20 : Int32).toInt = 20 by decide] at h1
  refine ⟨n.toInt.toNat, by omega, by omega, Int32.toInt_inj.mp ?_⟩
  rw [nI_toInt (by omega)]
  omega
/-- what the relation says of a sheet and a trace held to studios, at any memory of the model -/
theorem gSt {M : Mm} (hR : Rel0 M) {s : Nat} (hs : s < 8) : ∀ M1, Q0 M M1 → M1.1 97 s = M.1 (22 + 2 * s) 1 := fun M1 q => by rw [q.1 97 (by unfold cc; omega)]; exact (hR.2.2.1 s hs).1
theorem hold4 {m n : Nat} (hm : m ≤ 80) (hn : n ≤ 20) (q : Int32) : f_holds (nI m) q (nI n * 4) = (!decide (q < 0) && !decide ((nI m).toInt64 < q.toInt64 + (4 * nI n).toInt64)) := by
  rw [holds_64 hm, show nI n * 4 = nI (4 * n) by rw [Int32.mul_comm]; exact pk_mul 4 n, show (4 : Int32) * nI n = nI (4 * n) from pk_mul 4 n, decide_eq_false (nI_pos (n := 4 * n) (by omega)), Bool.not_false, Bool.and_true]
theorem gTOK {M M1 : Mm} (hR : Rel0 M) {N : Nat} (hN : M.1 0 3 = nI N) (hN24 : N ≤ 24) (q : Q0 M M1) : TOK M1 N ∧ ∀ t, t < N → M1.1 102 t = cTX M t ∧ M1.1 103 t = cTY M t ∧ M1.1 104 t = cTZ M t := by
  obtain ⟨⟨K, a1, a2, a3, a4⟩, -⟩ := hR
  have e : K = N := (nI_eq (by omega) (by omega)).mp (a1.symm.trans hN)
  subst e
  have k : ∀ t, t < K → M1.1 102 t = cTX M t ∧ M1.1 103 t = cTY M t ∧ M1.1 104 t = cTZ M t := fun t ht => by
    rw [q.1 102 (by unfold cc; omega), q.1 103 (by unfold cc; omega), q.1 104 (by unfold cc; omega)]
    exact ⟨(a4 t ht).1.symm, (a4 t ht).2.1.symm, (a4 t ht).2.2.1.symm⟩
  refine ⟨⟨q.2.2.1.trans a2, a3, fun t ht => ?_⟩, k⟩
  rw [(k t ht).1, (k t ht).2.1, (k t ht).2.2]
  exact (a4 t ht).2.2.2
section ST
variable {M M1 : Mm} {a s i n N : Nat}
theorem st_e0 (h : ∀ j, j < 80 → M1.1 99 (80 * s + j) = M.1 (23 + 2 * s) j) {b : Nat} (hb : i + b + 3 < 80) : ∀ j, j < 4 → sd (M1.1 99) (80 * s + i + b) j = sd (M.1 (23 + 2 * s)) (i + b) j := fun j hj => by
  show M1.1 99 (80 * s + i + b + j) = M.1 (23 + 2 * s) (i + b + j)
  rw [show 80 * s + i + b + j = 80 * s + (i + b + j) by omega]
  exact h _ (by omega)
theorem st_B (h : ∀ j, j < 80 → M1.1 99 (80 * s + j) = M.1 (23 + 2 * s) j) (hin : i + 4 * n ≤ 80) : allB (lkB M1 (80 * s + i)) (4 * n) = allB (stB M s i) n := by
  rw [st_all]
  refine allB_c (fun k hk => ?_)
  have e := st_e0 (i := i) h (b := 4 * k) (by omega)
  have e0 : M1.1 99 (80 * s + i + 4 * k) = _ := e 0 (by omega)
  have e1 : M1.1 99 (80 * s + i + 4 * k + 1) = _ := e 1 (by omega)
  have e2 : M1.1 99 (80 * s + i + 4 * k + 2) = _ := e 2 (by omega)
  have e3 : M1.1 99 (80 * s + i + 4 * k + 3) = _ := e 3 (by omega)
  rw [e0, e1, e2, e3]
  rfl
theorem st_t (g : Tq (mH M1) (cH M) ∧ Tq (mX M1) (cX M) ∧ Tq (mY M1) (cY M)) (ha : a < 8) (hN24 : N ≤ 24) (k : ∀ t, t < N → M1.1 102 t = cTX M t ∧ M1.1 103 t = cTY M t ∧ M1.1 104 t = cTZ M t) : ∀ t, t < N → mH M1 a t = cH M a t ∧ mX M1 a t = cX M a t ∧ mY M1 a t = cY M a t ∧ M1.1 102 t = cTX M t ∧ M1.1 103 t = cTY M t ∧ M1.1 104 t = cTZ M t := fun t ht => ⟨g.1 a ha t (by omega), g.2.1 a ha t (by omega), g.2.2 a ha t (by omega), (k t ht).1, (k t ht).2.1, (k t ht).2.2⟩
theorem st_S (h : ∀ j, j < 80 → M1.1 99 (80 * s + j) = M.1 (23 + 2 * s) j) (hin : i + 4 * n ≤ 80) (e : ∀ t, t < N → mH M1 a t = cH M a t ∧ mX M1 a t = cX M a t ∧ mY M1 a t = cY M a t ∧ M1.1 102 t = cTX M t ∧ M1.1 103 t = cTY M t ∧ M1.1 104 t = cTZ M t) {k : Nat} (hk : k < n) : mS M1 a (80 * s + i) N k = sm M a s i N k := mfs_c (st_e0 h (by omega)) N e
theorem st_D (h : ∀ j, j < 80 → M1.1 99 (80 * s + j) = M.1 (23 + 2 * s) j) (hin : i + 4 * n ≤ 80) (e : ∀ t, t < N → mH M1 a t = cH M a t ∧ mX M1 a t = cX M a t ∧ mY M1 a t = cY M a t ∧ M1.1 102 t = cTX M t ∧ M1.1 103 t = cTY M t ∧ M1.1 104 t = cTZ M t) (x : Int32) {k : Nat} (hk : k < n) : mSd M1 a (80 * s + i) N x k = sdm M a s i N x k := allB_c (fun t ht => mdB_c (st_e0 h (by omega)) (e t ht))
theorem st_R (h : ∀ j, j < 80 → M1.1 99 (80 * s + j) = M.1 (23 + 2 * s) j) (hin : i + 4 * n ≤ 80) (e : ∀ t, t < N → mH M1 a t = cH M a t ∧ mX M1 a t = cX M a t ∧ mY M1 a t = cY M a t ∧ M1.1 102 t = cTX M t ∧ M1.1 103 t = cTY M t ∧ M1.1 104 t = cTZ M t) (x : Int32) {k t : Nat} (hk : k < n) (ht : t < N) : mNr M1 a (80 * s + i) x t k = snr M a s i x t k := nrB_c (st_e0 h (by omega)) (e t ht)
end ST
theorem told_c (a s n e : Int32) : f_told a s n e = (f_in a 0 7 && f_in s 0 7 && f_in n 1 20 && f_in e 0 20) := rfl
theorem op_studio {M : Mm} (hR : Rel M) (a s i n k e w : Int32) : OPi mX11_studio mX12_studio 5 3 [.int a, .int s, .int i, .int n, .int k, .int e, .int w] M := by
  cases hb0 : (f_told a s n e && f_in k 0 (n - 1) && f_in w 0 1)
  · refine OPi_b hR (x_studio_bad M a s i n k e w hb0) (m_studio_bad M a s i n k e w ?_)
    rw [told_c] at hb0
    revert hb0
    cases f_in a 0 7 <;> cases f_in s 0 7 <;> cases f_in n 1 20 <;> cases f_in k 0 (n - 1) <;> cases f_in e 0 20 <;> cases f_in w 0 1 <;> decide
  · obtain ⟨hb0, hw⟩ := and_ff.mp hb0
    obtain ⟨hb0, hk⟩ := and_ff.mp hb0
    have htold := hb0
    rw [told_c] at hb0
    obtain ⟨hb0, he⟩ := and_ff.mp hb0
    obtain ⟨hb0, hn⟩ := and_ff.mp hb0
    obtain ⟨h1, h2⟩ := and_ff.mp hb0
    obtain ⟨a, ha, rfl⟩ := i7 h1
    obtain ⟨s, hs, rfl⟩ := i7 h2
    obtain ⟨n, hn1, hn20, rfl⟩ := n20 hn
    obtain ⟨k, hkn, rfl⟩ : ∃ j, j < n ∧ k = nI j := by
      obtain ⟨j, h1, h2⟩ := inN_nat (N := n) (by omega) hk
      exact ⟨j, h1, h2⟩
    obtain ⟨N, hN, hN24, h7, hT, hE, hMA⟩ := gT2 hR.1
    have hls := hR.1.2.2.1 s hs
    have e97 := gSt hR.1 hs
    rcases lane_n (hls.2.imp id (fun q => q.1)) with ⟨d1, d2⟩ | ⟨d1, d2⟩
    · rcases w01 hw with rfl | rfl
      · exact OPi_s2 hR (x_studio_null_0 M ha hs e htold hk i d1) (fun M1 h => m_studio_null M1 ha hs e hn hk he 0 hw i (by rw [e97 M1 h]; exact d2))
      · exact OPi_s2 hR (x_studio_null_1 M ha hs e htold hk i d1) (fun M1 h => m_studio_null M1 ha hs e hn hk he 1 hw i (by rw [e97 M1 h]; exact d2))
    · rcases hls.2 with e98 | ⟨b1, m, hm, b3, b4, b5⟩
      · rw [e98] at d2; exact absurd neg_1 d2
      have f98 : ∀ M1, Q0 M M1 → M1.1 98 s = nI m := fun M1 h => by rw [h.1 98 (by unfold cc; omega)]; exact b4
      have f99 : ∀ M1, Q0 M M1 → ∀ j, j < 80 → M1.1 99 (80 * s + j) = M.1 (23 + 2 * s) j := fun M1 h j hj => by rw [h.1 99 (by unfold cc; omega)]; exact b5 j hj
      cases hh : f_holds (nI m) i (nI n * 4)
      · rcases w01 hw with rfl | rfl
        · exact OPi_s2 hR (x_studio_place_0 M ha hs e htold hk i d1 (by rw [b3]; exact hh)) (fun M1 h => m_studio_place M1 ha hs e hn hk he 0 hw i (by rw [e97 M1 h]; exact d2) (by rw [f98 M1 h, ← hold4 hm hn20]; exact hh))
        · exact OPi_s2 hR (x_studio_place_1 M ha hs e htold hk i d1 (by rw [b3]; exact hh)) (fun M1 h => m_studio_place M1 ha hs e hn hk he 1 hw i (by rw [e97 M1 h]; exact d2) (by rw [f98 M1 h, ← hold4 hm hn20]; exact hh))
      · obtain ⟨i, b, rfl, hb4, hib⟩ := holds_ix hm hh
        have hbn : b = 4 * n := by
          rw [show nI n * 4 = nI (4 * n) by rw [Int32.mul_comm]; exact pk_mul 4 n] at hb4
          exact ((nI_eq (a := 4 * n) (b := b) (by omega) (by omega)).mp hb4).symm
        have hin : i + 4 * n ≤ 80 := by omega
        have h64 : ¬ (nI m).toInt64 < (nI i).toInt64 + (4 * nI n).toInt64 := by
          have q := hh
          rw [hold4 hm hn20] at q
          simp only [Bool.and_eq_true, Bool.not_eq_true', decide_eq_false_iff_not] at q
          exact q.2
        cases hall : allB (stB M s i) n
        · rcases w01 hw with rfl | rfl
          · exact OPi_no hR (x_studio_no_0 M ha hs e htold hk hin d1 (by rw [b3]; exact hh) hall) (fun M1 h => m_studio_no M1 ha hs e hn hk he 0 hw hin (by rw [e97 M1 h]; exact d2) (by rw [f98 M1 h]; exact h64) (by rw [st_B (f99 M1 h) hin]; exact hall))
          · exact OPi_no hR (x_studio_no_1 M ha hs e htold hk hin d1 (by rw [b3]; exact hh) hall) (fun M1 h => m_studio_no M1 ha hs e hn hk he 1 hw hin (by rw [e97 M1 h]; exact d2) (by rw [f98 M1 h]; exact h64) (by rw [st_B (f99 M1 h) hin]; exact hall))
        · rcases w01 hw with rfl | rfl
          · refine OPi_ok hR (x_studio_ok_0 M ha hs e htold hk hkn hin d1 (by rw [b3]; exact hh) hall hN hN24) (fun M1 h => ?_)
            obtain ⟨tok, kT⟩ := gTOK hR.1 hN hN24 h
            have g := gH hR.1 h
            have hm2 := m_studio_ok_0 M1 ha hs e hn hk he hkn hin (by rw [e97 M1 h]; exact d2) (by rw [f98 M1 h]; exact h64) (by rw [st_B (f99 M1 h) hin]; exact hall) tok
            rw [st_S (f99 M1 h) hin (st_t g ha hN24 kT) hkn] at hm2
            exact hm2
          · refine OPi_ok hR (x_studio_ok_1 M ha hs e htold hk hkn hin d1 (by rw [b3]; exact hh) hall hN hN24) (fun M1 h => ?_)
            obtain ⟨tok, kT⟩ := gTOK hR.1 hN hN24 h
            have g := gH hR.1 h
            have hm2 := m_studio_ok_1 M1 ha hs e hn hk he hkn hin (by rw [e97 M1 h]; exact d2) (by rw [f98 M1 h]; exact h64) (by rw [st_B (f99 M1 h) hin]; exact hall) tok
            rw [st_D (f99 M1 h) hin (st_t g ha hN24 kT) e hkn] at hm2
            exact hm2
theorem op_studios {M : Mm} (hR : Rel M) (a s i n e w : Int32) : OPi mX11_studios mX12_studios 5 3 [.int a, .int s, .int i, .int n, .int e, .int w] M := by
  cases hb0 : (f_told a s n e && f_in w 0 2)
  · refine OPi_b hR (x_studios_bad M a s i n e w hb0) (m_studios_bad M a s i n e w ?_)
    rw [told_c] at hb0
    revert hb0
    cases f_in a 0 7 <;> cases f_in s 0 7 <;> cases f_in n 1 20 <;> cases f_in e 0 20 <;> cases f_in w 0 2 <;> decide
  · obtain ⟨hb0, hw⟩ := and_ff.mp hb0
    have htold := hb0
    rw [told_c] at hb0
    obtain ⟨hb0, he⟩ := and_ff.mp hb0
    obtain ⟨hb0, hn⟩ := and_ff.mp hb0
    obtain ⟨h1, h2⟩ := and_ff.mp hb0
    obtain ⟨a, ha, rfl⟩ := i7 h1
    obtain ⟨s, hs, rfl⟩ := i7 h2
    obtain ⟨n, hn1, hn20, rfl⟩ := n20 hn
    obtain ⟨N, hN, hN24, h7, hT, hE, hMA⟩ := gT2 hR.1
    have hls := hR.1.2.2.1 s hs
    have e97 := gSt hR.1 hs
    rcases lane_n (hls.2.imp id (fun q => q.1)) with ⟨d1, d2⟩ | ⟨d1, d2⟩
    · rcases w02 hw with rfl | rfl | rfl
      · exact OPi_s2 hR (x_studios_null_0 M ha hs e htold i d1) (fun M1 h => m_studios_null M1 ha hs e hn he 0 hw i (by rw [e97 M1 h]; exact d2))
      · exact OPi_s2 hR (x_studios_null_1 M ha hs e htold i d1) (fun M1 h => m_studios_null M1 ha hs e hn he 1 hw i (by rw [e97 M1 h]; exact d2))
      · exact OPi_s2 hR (x_studios_null_2 M ha hs e htold i d1) (fun M1 h => m_studios_null M1 ha hs e hn he 2 hw i (by rw [e97 M1 h]; exact d2))
    · rcases hls.2 with e98 | ⟨b1, m, hm, b3, b4, b5⟩
      · rw [e98] at d2; exact absurd neg_1 d2
      have f98 : ∀ M1, Q0 M M1 → M1.1 98 s = nI m := fun M1 h => by rw [h.1 98 (by unfold cc; omega)]; exact b4
      have f99 : ∀ M1, Q0 M M1 → ∀ j, j < 80 → M1.1 99 (80 * s + j) = M.1 (23 + 2 * s) j := fun M1 h j hj => by rw [h.1 99 (by unfold cc; omega)]; exact b5 j hj
      cases hh : f_holds (nI m) i (nI n * 4)
      · rcases w02 hw with rfl | rfl | rfl
        · exact OPi_s2 hR (x_studios_place_0 M ha hs e htold i d1 (by rw [b3]; exact hh)) (fun M1 h => m_studios_place M1 ha hs e hn he 0 hw i (by rw [e97 M1 h]; exact d2) (by rw [f98 M1 h, ← hold4 hm hn20]; exact hh))
        · exact OPi_s2 hR (x_studios_place_1 M ha hs e htold i d1 (by rw [b3]; exact hh)) (fun M1 h => m_studios_place M1 ha hs e hn he 1 hw i (by rw [e97 M1 h]; exact d2) (by rw [f98 M1 h, ← hold4 hm hn20]; exact hh))
        · exact OPi_s2 hR (x_studios_place_2 M ha hs e htold i d1 (by rw [b3]; exact hh)) (fun M1 h => m_studios_place M1 ha hs e hn he 2 hw i (by rw [e97 M1 h]; exact d2) (by rw [f98 M1 h, ← hold4 hm hn20]; exact hh))
      · obtain ⟨i, b, rfl, hb4, hib⟩ := holds_ix hm hh
        have hbn : b = 4 * n := by
          rw [show nI n * 4 = nI (4 * n) by rw [Int32.mul_comm]; exact pk_mul 4 n] at hb4
          exact ((nI_eq (a := 4 * n) (b := b) (by omega) (by omega)).mp hb4).symm
        have hin : i + 4 * n ≤ 80 := by omega
        have h64 : ¬ (nI m).toInt64 < (nI i).toInt64 + (4 * nI n).toInt64 := by
          have q := hh
          rw [hold4 hm hn20] at q
          simp only [Bool.and_eq_true, Bool.not_eq_true', decide_eq_false_iff_not] at q
          exact q.2
        cases hall : allB (stB M s i) n
        · rcases w02 hw with rfl | rfl | rfl
          · exact OPi_no hR (x_studios_no_0 M ha hs e htold hin d1 (by rw [b3]; exact hh) hall) (fun M1 h => m_studios_no M1 ha hs e hn he 0 hw hin (by rw [e97 M1 h]; exact d2) (by rw [f98 M1 h]; exact h64) (by rw [st_B (f99 M1 h) hin]; exact hall))
          · exact OPi_no hR (x_studios_no_1 M ha hs e htold hin d1 (by rw [b3]; exact hh) hall) (fun M1 h => m_studios_no M1 ha hs e hn he 1 hw hin (by rw [e97 M1 h]; exact d2) (by rw [f98 M1 h]; exact h64) (by rw [st_B (f99 M1 h) hin]; exact hall))
          · exact OPi_no hR (x_studios_no_2 M ha hs e htold hin d1 (by rw [b3]; exact hh) hall) (fun M1 h => m_studios_no M1 ha hs e hn he 2 hw hin (by rw [e97 M1 h]; exact d2) (by rw [f98 M1 h]; exact h64) (by rw [st_B (f99 M1 h) hin]; exact hall))
        · rcases w02 hw with rfl | rfl | rfl
          · refine OPi_ok hR (x_studios_ok_0 M ha hs e htold hn1 hin d1 (by rw [b3]; exact hh) hall hN hN24) (fun M1 h => ?_)
            obtain ⟨tok, kT⟩ := gTOK hR.1 hN hN24 h
            have g := gH hR.1 h
            have hm2 := m_studios_ok_0 M1 ha hs e hn he hin (by rw [e97 M1 h]; exact d2) (by rw [f98 M1 h]; exact h64) (by rw [st_B (f99 M1 h) hin]; exact hall) tok
            rw [bst_c (m2 := sm M a s i N) (n - 1) (fun j hj => st_S (f99 M1 h) hin (st_t g ha hN24 kT) (by omega))] at hm2
            exact hm2
          · refine OPi_ok hR (x_studios_ok_1 M ha hs e htold hn1 hin d1 (by rw [b3]; exact hh) hall hN hN24) (fun M1 h => ?_)
            obtain ⟨tok, kT⟩ := gTOK hR.1 hN hN24 h
            have g := gH hR.1 h
            have hm2 := m_studios_ok_1 M1 ha hs e hn he hin (by rw [e97 M1 h]; exact d2) (by rw [f98 M1 h]; exact h64) (by rw [st_B (f99 M1 h) hin]; exact hall) tok
            rw [cntB_c (q := sdm M a s i N e) (fun k hk => st_D (f99 M1 h) hin (st_t g ha hN24 kT) e hk)] at hm2
            exact hm2
          · refine OPi_ok hR (x_studios_ok_2 M ha hs e htold hn1 hin d1 (by rw [b3]; exact hh) hall hN hN24) (fun M1 h => ?_)
            obtain ⟨tok, kT⟩ := gTOK hR.1 hN hN24 h
            have g := gH hR.1 h
            have hm2 := m_studios_ok_2 M1 ha hs e hn he hin (by rw [e97 M1 h]; exact d2) (by rw [f98 M1 h]; exact h64) (by rw [st_B (f99 M1 h) hin]; exact hall) tok
            rw [cntB_c (q := noB M a s i n e) (fun t ht => by
              have e1 := (st_t g ha hN24 kT t ht).1
              rw [e1, allB_c (q := fun k => !(snr M a s i e t k)) (fun k hk => by rw [st_R (f99 M1 h) hin (st_t g ha hN24 kT) e hk ht])])] at hm2
            exact hm2
