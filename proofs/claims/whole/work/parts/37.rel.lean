/-! THE RELATION of the class's cells and the model's -/
theorem wi_r {M : Mm} {k j a b : Nat} {v : Int32} (h : ¬ (a = k ∧ b = j)) : (wi M k j v).1 a b = M.1 a b := if_neg h
theorem wi_s {M : Mm} {k j : Nat} {v : Int32} : (wi M k j v).1 k j = v := if_pos ⟨rfl, rfl⟩
def R1 (M : Mm) : Prop := ∃ N, M.1 0 3 = nI N ∧ M.1 96 7 = nI N ∧ N ≤ 24 ∧ ∀ i, i < N → M.1 (38 + i) 0 = M.1 102 i ∧ M.1 (38 + i) 1 = M.1 103 i ∧ M.1 (38 + i) 2 = M.1 104 i ∧ RT (M.1 (38 + i) 0) (M.1 (38 + i) 1) (M.1 (38 + i) 2)
def R2 (M : Mm) : Prop := M.1 100 = M.1 3 ∧ M.1 101 = M.1 4 ∧ RR (M.1 3) ∧ RB (M.1 4)
def R3s (M : Mm) (s : Nat) : Prop := M.1 97 s = M.1 (22 + 2 * s) 1 ∧ (M.1 (22 + 2 * s) 1 = -1 ∨ (0 ≤ M.1 (22 + 2 * s) 1 ∧ ∃ n, n ≤ 80 ∧ M.1 (22 + 2 * s) 2 = nI n ∧ M.1 98 s = nI n ∧ ∀ j, j < 80 → M.1 99 (80 * s + j) = M.1 (23 + 2 * s) j))
def R3 (M : Mm) : Prop := ∀ s, s < 8 → R3s M s
def R4 (M : Mm) : Prop := ∀ a, a < 8 → ∀ t, t < 24 → M.1 105 (24 * a + t) = M.1 (63 + 4 * a) t ∧ M.1 106 (24 * a + t) = M.1 (64 + 4 * a) t ∧ M.1 107 (24 * a + t) = M.1 (65 + 4 * a) t
def R5 (M : Mm) : Prop := M2 M (M.1 94) (M.1 95)
def R6 (M : Mm) : Prop := M.1 96 28 = M.1 20 1 ∧ M.1 112 = M.1 21 ∧ ∃ t, t ≤ 16 ∧ M.1 20 1 = nI t
def R8 (M : Mm) : Prop := M.1 15 0 = 0 ∧ M.1 16 0 = 0
def Rel0 (M : Mm) : Prop := R1 M ∧ R2 M ∧ R3 M ∧ R4 M ∧ R5 M ∧ R6 M ∧ R8 M
def Rel (M : Mm) : Prop := Rel0 M ∧ M.1 0 12 = M.1 96 1
/-- nothing that the relation speaks of has changed, but for the status -/
def cc (c : Nat) : Prop := c = 3 ∨ c = 4 ∨ (21 ≤ c ∧ c ≤ 95) ∨ (97 ≤ c ∧ c ≤ 107) ∨ 111 ≤ c
def Q0 (M M1 : Mm) : Prop := (∀ c, cc c → M1.1 c = M.1 c) ∧ M1.1 0 3 = M.1 0 3 ∧ M1.1 96 7 = M.1 96 7 ∧ M1.1 96 28 = M.1 96 28 ∧ M1.1 20 1 = M.1 20 1 ∧ (M.1 15 0 = 0 → M1.1 15 0 = 0) ∧ (M.1 16 0 = 0 → M1.1 16 0 = 0)
def Qs (M M1 : Mm) : Prop := Q0 M M1 ∧ M1.1 0 12 = M.1 0 12 ∧ M1.1 96 1 = M.1 96 1
theorem Q0_rf (M : Mm) : Q0 M M := ⟨fun _ _ => rfl, rfl, rfl, rfl, rfl, id, id⟩
theorem Qs_rf (M : Mm) : Qs M M := ⟨Q0_rf M, rfl, rfl⟩
theorem Q0_tr {M M1 M2 : Mm} (h : Q0 M M1) (g : Q0 M1 M2) : Q0 M M2 :=
  ⟨fun c hc => (g.1 c hc).trans (h.1 c hc), g.2.1.trans h.2.1, g.2.2.1.trans h.2.2.1, g.2.2.2.1.trans h.2.2.2.1, g.2.2.2.2.1.trans h.2.2.2.2.1, fun q => g.2.2.2.2.2.1 (h.2.2.2.2.2.1 q), fun q => g.2.2.2.2.2.2 (h.2.2.2.2.2.2 q)⟩
theorem Qs_tr {M M1 M2 : Mm} (h : Qs M M1) (g : Qs M1 M2) : Qs M M2 := ⟨Q0_tr h.1 g.1, g.2.1.trans h.2.1, g.2.2.trans h.2.2⟩
theorem Q0_w0 {M M1 : Mm} {v : Int32} (h : Q0 M M1) : Q0 M (wi M1 0 12 v) := Q0_tr h ⟨fun c hc => wi_c (by unfold cc at hc; omega), wi_r (by omega), wi_r (by omega), wi_r (by omega), wi_r (by omega), fun q => (wi_r (by omega)).trans q, fun q => (wi_r (by omega)).trans q⟩
theorem Q0_w96 {M M1 : Mm} {j : Nat} {v : Int32} (h : Q0 M M1) (hj : j < 7 ∨ (7 < j ∧ j < 28)) : Q0 M (wi M1 96 j v) := Q0_tr h ⟨fun c hc => wi_c (by unfold cc at hc; omega), wi_r (by omega), wi_r (by omega), wi_r (by omega), wi_r (by omega), fun q => (wi_r (by omega)).trans q, fun q => (wi_r (by omega)).trans q⟩
theorem Qs_w96 {M M1 : Mm} {j : Nat} {v : Int32} (h : Qs M M1) (hj : j < 1 ∨ (1 < j ∧ j < 7) ∨ (7 < j ∧ j < 28)) : Qs M (wi M1 96 j v) := ⟨Q0_w96 h.1 (by omega), (wi_r (by omega)).trans h.2.1, (wi_r (by omega)).trans h.2.2⟩
theorem Qs_t0 {M M1 : Mm} (h : Qs M M1) : Qs M (wi M1 96 0 0) := Qs_w96 h (by omega)
theorem R1_f {M M1 : Mm} (h0 : M1.1 0 3 = M.1 0 3) (h9 : M1.1 96 7 = M.1 96 7) (h : ∀ c, (38 ≤ c ∧ c < 62) ∨ (102 ≤ c ∧ c ≤ 104) → M1.1 c = M.1 c) (hR : R1 M) : R1 M1 := by
  obtain ⟨N, a1, a2, a3, a4⟩ := hR
  refine ⟨N, h0.trans a1, h9.trans a2, a3, fun i hi => ?_⟩
  rw [h (38 + i) (by omega), h 102 (by omega), h 103 (by omega), h 104 (by omega)]
  exact a4 i hi
theorem R2_f {M M1 : Mm} (h3 : M1.1 3 = M.1 3) (h4 : M1.1 4 = M.1 4) (h100 : M1.1 100 = M.1 100) (h101 : M1.1 101 = M.1 101) (hR : R2 M) : R2 M1 := by
  unfold R2; rw [h3, h4, h100, h101]; exact hR
theorem R3_f {M M1 : Mm} (h : ∀ c, (22 ≤ c ∧ c < 38) ∨ (97 ≤ c ∧ c ≤ 99) → M1.1 c = M.1 c) (hR : R3 M) : R3 M1 := by
  intro s hs
  unfold R3s
  rw [h (22 + 2 * s) (by omega), h (23 + 2 * s) (by omega), h 97 (by omega), h 98 (by omega), h 99 (by omega)]
  exact hR s hs
theorem R4_f {M M1 : Mm} (h : ∀ c, (62 ≤ c ∧ c < 94) ∨ (105 ≤ c ∧ c ≤ 107) → M1.1 c = M.1 c) (hR : R4 M) : R4 M1 := by
  intro a ha t ht
  rw [h (63 + 4 * a) (by omega), h (64 + 4 * a) (by omega), h (65 + 4 * a) (by omega), h 105 (by omega), h 106 (by omega), h 107 (by omega)]
  exact hR a ha t ht
theorem R5_f {M M1 : Mm} (h1 : M1.1 94 = M.1 94) (h2 : M1.1 95 = M.1 95) (h3 : M1.1 111 = M.1 111) (hR : R5 M) : R5 M1 := by
  unfold R5; rw [h1, h2]; exact M2_o h3 hR
theorem R6_f {M M1 : Mm} (h1 : M1.1 20 1 = M.1 20 1) (h2 : M1.1 96 28 = M.1 96 28) (h3 : M1.1 21 = M.1 21) (h4 : M1.1 112 = M.1 112) (hR : R6 M) : R6 M1 := by
  unfold R6; rw [h1, h2, h3, h4]; exact hR
theorem Q0_Rel0 {M M1 : Mm} (h : Q0 M M1) (hR : Rel0 M) : Rel0 M1 := by
  obtain ⟨q, q1, q2, q3, q4, q5, q6⟩ := h
  obtain ⟨r1, r2, r3, r4, r5, r6, r8⟩ := hR
  exact ⟨R1_f q1 q2 (fun c hc => q c (by unfold cc; omega)) r1, R2_f (q 3 (by unfold cc; omega)) (q 4 (by unfold cc; omega)) (q 100 (by unfold cc; omega)) (q 101 (by unfold cc; omega)) r2,
    R3_f (fun c hc => q c (by unfold cc; omega)) r3, R4_f (fun c hc => q c (by unfold cc; omega)) r4, R5_f (q 94 (by unfold cc; omega)) (q 95 (by unfold cc; omega)) (q 111 (by unfold cc; omega)) r5,
    R6_f q4 q3 (q 21 (by unfold cc; omega)) (q 112 (by unfold cc; omega)) r6, q5 r8.1, q6 r8.2⟩
theorem Qs_Rel {M M1 : Mm} (h : Qs M M1) (hR : Rel M) : Rel M1 := ⟨Q0_Rel0 h.1 hR.1, by rw [h.2.1, h.2.2]; exact hR.2⟩
/-- AN OPERATION: the class answers v, and then the model does, and the relation holds again -/
def OPi (fx fm : MB) (dx dm : Nat) (ar : List Value) (M : Mm) : Prop := ∃ (v : Int32) (P1 : Mm → Prop), AQ fx dx (.ref 0 :: ar) M (some (.int v)) P1 ∧ ∀ M1, P1 M1 → AQ fm dm (.ref 96 :: ar) M1 (some (.int v)) Rel
def OPl (fx fm : MB) (dx dm : Nat) (ar : List Value) (M : Mm) : Prop := ∃ (v : Int64) (P1 : Mm → Prop), AQ fx dx (.ref 0 :: ar) M (some (.long v)) P1 ∧ ∀ M1, P1 M1 → AQ fm dm (.ref 96 :: ar) M1 (some (.long v)) Rel
theorem OPi_X {fx fm : MB} {dx dm : Nat} {ar : List Value} {M M1 M2 : Mm} {v : Int32} (hx : AX fx dx (.ref 0 :: ar) M (some (.int v)) M1) (hm : AX fm dm (.ref 96 :: ar) M1 (some (.int v)) M2) (h : Rel M2) : OPi fx fm dx dm ar M :=
  ⟨v, fun M' => M' = M1, hx, fun M' e => by subst e; exact AQ_wk (P := fun M' => M' = M2) hm (fun M' e => by subst e; exact h)⟩
/-- a question: nothing changes -/
theorem OPi_q {fx fm : MB} {dx dm : Nat} {ar : List Value} {M : Mm} {v : Int32} {P1 : Mm → Prop} {P2 : Mm → Mm → Prop} (hR : Rel M) (hx : AQ fx dx (.ref 0 :: ar) M (some (.int v)) P1) (h1 : ∀ M1, P1 M1 → Qs M M1) (hm : ∀ M1, Qs M M1 → AQ fm dm (.ref 96 :: ar) M1 (some (.int v)) (P2 M1)) (h2 : ∀ M1 M2, P2 M1 M2 → Qs M1 M2) : OPi fx fm dx dm ar M :=
  ⟨v, P1, hx, fun M1 e => AQ_wk (hm M1 (h1 M1 e)) (fun M2 e2 => Qs_Rel (Qs_tr (h1 M1 e) (h2 M1 M2 e2)) hR)⟩
theorem OPl_q {fx fm : MB} {dx dm : Nat} {ar : List Value} {M : Mm} {v : Int64} {P1 : Mm → Prop} {P2 : Mm → Mm → Prop} (hR : Rel M) (hx : AQ fx dx (.ref 0 :: ar) M (some (.long v)) P1) (h1 : ∀ M1, P1 M1 → Qs M M1) (hm : ∀ M1, Qs M M1 → AQ fm dm (.ref 96 :: ar) M1 (some (.long v)) (P2 M1)) (h2 : ∀ M1 M2, P2 M1 M2 → Qs M1 M2) : OPl fx fm dx dm ar M :=
  ⟨v, P1, hx, fun M1 e => AQ_wk (hm M1 (h1 M1 e)) (fun M2 e2 => Qs_Rel (Qs_tr (h1 M1 e) (h2 M1 M2 e2)) hR)⟩
/-- a question that both answer out of hand: the class leaves all as it is, the model clears its own number -/
theorem OPi_b {fx fm : MB} {dx dm : Nat} {ar : List Value} {M : Mm} {v : Int32} (hR : Rel M) (hx : AX fx dx (.ref 0 :: ar) M (some (.int v)) M) (hm : AX fm dm (.ref 96 :: ar) M (some (.int v)) (wi M 96 0 0)) : OPi fx fm dx dm ar M := OPi_X hx hm (Qs_Rel (Qs_t0 (Qs_rf M)) hR)
theorem OPl_b {fx fm : MB} {dx dm : Nat} {ar : List Value} {M : Mm} {v : Int64} (hR : Rel M) (hx : AX fx dx (.ref 0 :: ar) M (some (.long v)) M) (hm : AX fm dm (.ref 96 :: ar) M (some (.long v)) (wi M 96 0 0)) : OPl fx fm dx dm ar M :=
  ⟨v, fun M' => M' = M, hx, fun M' e => by rw [e]; exact AQ_wk (P := fun M' => M' = wi M 96 0 0) hm (fun M' e => by rw [e]; exact Qs_Rel (Qs_t0 (Qs_rf M)) hR)⟩
/-- a finding: both set their status -/
theorem OPi_st {fx fm : MB} {dx dm : Nat} {ar : List Value} {M : Mm} {v n : Int32} (hR : Rel M) (hx : AX fx dx (.ref 0 :: ar) M (some (.int v)) (wi M 0 12 n)) (hm : ∀ M1, Q0 M M1 → AX fm dm (.ref 96 :: ar) M1 (some (.int v)) (wi (wi (wi M1 96 0 0) 96 1 0) 96 1 n)) : OPi fx fm dx dm ar M :=
  OPi_X hx (hm _ (Q0_w0 (Q0_rf M))) ⟨Q0_Rel0 (Q0_w96 (Q0_w96 (Q0_w96 (Q0_w0 (Q0_rf M)) (by omega)) (by omega)) (by omega)) hR.1, ((wi_r (by omega)).trans ((wi_r (by omega)).trans ((wi_r (by omega)).trans wi_s))).trans wi_s.symm⟩
theorem Rel_st {M M2 : Mm} (hR : Rel M) (h : Q0 M M2) (e : M2.1 0 12 = M2.1 96 1) : Rel M2 := ⟨Q0_Rel0 h hR.1, e⟩
/-! the small frames -/
theorem Qs_Oc {M M1 : Mm} {c : Nat} (h : Oc c M M1) (hc : c = 7 ∨ c = 19) : Qs M M1 := ⟨⟨fun k hk => h.1 k (by unfold cc at hk; omega), by rw [h.1 0 (by omega)], by rw [h.1 96 (by omega)], by rw [h.1 96 (by omega)], by rw [h.1 20 (by omega)], fun q => by rw [h.1 15 (by omega)]; exact q, fun q => by rw [h.1 16 (by omega)]; exact q⟩, by rw [h.1 0 (by omega)], by rw [h.1 96 (by omega)]⟩
theorem Qs_pic {M : Mm} {ρ β : Nat → Int32} {x y z : Int32} : Qs M (pic M ρ β x y z) := Qs_Oc (Oc_pic (Oc_rf 7 M)) (Or.inl rfl)
theorem Qs_JF {M M1 : Mm} (h : JF M M1) : Qs M M1 := ⟨⟨fun k hk => h.1 k (by unfold cc at hk; omega), by rw [h.1 0 (by omega)], by rw [h.1 96 (by omega)], by rw [h.1 96 (by omega)], by rw [h.1 20 (by omega)], fun q => by rw [h.1 15 (by omega)]; exact q, fun q => by rw [h.1 16 (by omega)]; exact q⟩, by rw [h.1 0 (by omega)], by rw [h.1 96 (by omega)]⟩
theorem Qs_RF {M M1 : Mm} (h : RF M M1) : Qs M M1 := by
  obtain ⟨e1, e2, h, -⟩ := h
  exact ⟨⟨fun k hk => h k (by unfold cc at hk; omega), by rw [h 0 (by omega)], by rw [h 96 (by omega)], by rw [h 96 (by omega)], by rw [h 20 (by omega)], fun _ => e1, fun _ => e2⟩, by rw [h 0 (by omega)], by rw [h 96 (by omega)]⟩
theorem Qs_eq {M M1 : Mm} (h : M1.1 = M.1) : Qs M M1 := ⟨⟨fun k _ => by rw [h], by rw [h], by rw [h], by rw [h], by rw [h], fun q => by rw [h]; exact q, fun q => by rw [h]; exact q⟩, by rw [h], by rw [h]⟩
theorem Qs_JF2 {M M1 : Mm} (h : JF2 M M1) : Qs M M1 := ⟨⟨fun k hk => h.2 k (by unfold cc at hk; omega) (by unfold cc at hk; omega), by rw [h.2 0 (by omega) (by omega)], h.1 7 (by omega), h.1 28 (by omega), by rw [h.2 20 (by omega) (by omega)], fun q => by rw [h.2 15 (by omega) (by omega)]; exact q, fun q => by rw [h.2 16 (by omega) (by omega)]; exact q⟩, by rw [h.2 0 (by omega) (by omega)], h.1 1 (by omega)⟩
theorem Qs_GF {M M1 : Mm} (h : GF M M1) : Qs M M1 := ⟨⟨fun k hk => h.2 k (by unfold cc at hk; omega), by rw [h.2 0 (by omega)], h.1 7 (by omega), h.1 28 (by omega), by rw [h.2 20 (by omega)], fun q => by rw [h.2 15 (by omega)]; exact q, fun q => by rw [h.2 16 (by omega)]; exact q⟩, by rw [h.2 0 (by omega)], h.1 1 (by omega)⟩
theorem Q0_PF {M M1 : Mm} (h : PF M M1) : Q0 M M1 ∧ M1.1 0 12 = M.1 0 12 ∧ M1.1 96 1 = M.1 96 1 := ⟨⟨fun k hk => h.2 k (by unfold cc at hk; omega), by rw [h.2 0 (by omega)], h.1 7 (by omega) (by omega), h.1 28 (by omega) (by omega), by rw [h.2 20 (by omega)], fun q => by rw [h.2 15 (by omega)]; exact q, fun q => by rw [h.2 16 (by omega)]; exact q⟩, by rw [h.2 0 (by omega)], h.1 1 (by omega) (by omega)⟩
/-! what the relation gives the model -/
theorem gT {M : Mm} (hR : Rel0 M) : ∃ N, M.1 0 3 = nI N ∧ N ≤ 24 ∧ (∀ i, i < N → RT (cTX M i) (cTY M i) (cTZ M i)) ∧ ∀ M1, Q0 M M1 → M1.1 96 7 = nI N ∧ MA M1 N (M.1 3) (M.1 4) (cTX M) (cTY M) (cTZ M) := by
  obtain ⟨⟨N, a1, a2, a3, a4⟩, ⟨b1, b2, b3, b4⟩, -⟩ := hR
  refine ⟨N, a1, a3, fun i hi => (a4 i hi).2.2.2, fun M1 q => ?_⟩
  have e7 : M1.1 96 7 = nI N := q.2.2.1.trans a2
  refine ⟨e7, e7, a3, fun t ht => ?_⟩
  obtain ⟨c1, c2, c3, c4⟩ := a4 t ht
  refine ⟨(q.1 100 (by unfold cc; omega)).trans b1, (q.1 101 (by unfold cc; omega)).trans b2, ?_, ?_, ?_, b3, b4, c4⟩
  · rw [q.1 102 (by unfold cc; omega)]; exact c1.symm
  · rw [q.1 103 (by unfold cc; omega)]; exact c2.symm
  · rw [q.1 104 (by unfold cc; omega)]; exact c3.symm
theorem inN_nat {t : Int32} {N : Nat} (hN : N ≤ 24) (h : f_in t 0 (nI N - 1) = true) : ∃ i, i < N ∧ t = nI i := by
  rcases Nat.eq_zero_or_pos N with q | q
  · subst q
    have h1 := (in_iff _ _ _).mp h
    have e1 : (0 : Int32).toInt = 0 := by decide
    have e2 : (nI 0 - 1).toInt = -1 := by decide
    rw [e1, e2] at h1
    omega
  · obtain ⟨i, h1, h2⟩ := in_nat (n := N - 1) (by rw [show nI N - 1 = nI (N - 1) from pk_sub (a := N) (b := 1) q, nI_toInt (by omega)]) h
    exact ⟨i, by omega, h2⟩
theorem w01 {w : Int32} (h : f_in w 0 1 = true) : w = 0 ∨ w = 1 := by
  obtain ⟨i, h1, rfl⟩ := in_nat (n := 1) (by decide) h
  rcases (show i = 0 ∨ i = 1 by omega) with rfl | rfl
  · exact Or.inl rfl
  · exact Or.inr rfl
theorem w02 {w : Int32} (h : f_in w 0 2 = true) : w = 0 ∨ w = 1 ∨ w = 2 := by
  obtain ⟨i, h1, rfl⟩ := in_nat (n := 2) (by decide) h
  rcases (show i = 0 ∨ i = 1 ∨ i = 2 by omega) with rfl | rfl | rfl
  · exact Or.inl rfl
  · exact Or.inr (Or.inl rfl)
  · exact Or.inr (Or.inr rfl)
theorem w03 {w : Int32} (h : f_in w 0 3 = true) : w = 0 ∨ w = 1 ∨ w = 2 ∨ w = 3 := by
  obtain ⟨i, h1, rfl⟩ := in_nat (n := 3) (by decide) h
  rcases (show i = 0 ∨ i = 1 ∨ i = 2 ∨ i = 3 by omega) with rfl | rfl | rfl | rfl
  · exact Or.inl rfl
  · exact Or.inr (Or.inl rfl)
  · exact Or.inr (Or.inr (Or.inl rfl))
  · exact Or.inr (Or.inr (Or.inr rfl))
theorem w07 {w : Int32} (h : f_in w 0 7 = true) : w = 0 ∨ w = 1 ∨ w = 2 ∨ w = 3 ∨ w = 4 ∨ w = 5 ∨ w = 6 ∨ w = 7 := by
  obtain ⟨i, h1, rfl⟩ := in_nat (n := 7) (by decide) h
  rcases (show i = 0 ∨ i = 1 ∨ i = 2 ∨ i = 3 ∨ i = 4 ∨ i = 5 ∨ i = 6 ∨ i = 7 by omega) with rfl | rfl | rfl | rfl | rfl | rfl | rfl | rfl
  · exact Or.inl rfl
  · exact Or.inr (Or.inl rfl)
  · exact Or.inr (Or.inr (Or.inl rfl))
  · exact Or.inr (Or.inr (Or.inr (Or.inl rfl)))
  · exact Or.inr (Or.inr (Or.inr (Or.inr (Or.inl rfl))))
  · exact Or.inr (Or.inr (Or.inr (Or.inr (Or.inr (Or.inl rfl)))))
  · exact Or.inr (Or.inr (Or.inr (Or.inr (Or.inr (Or.inr (Or.inl rfl))))))
  · exact Or.inr (Or.inr (Or.inr (Or.inr (Or.inr (Or.inr (Or.inr rfl))))))
theorem w08 {w : Int32} (h : f_in w 0 8 = true) : w = 0 ∨ w = 1 ∨ w = 2 ∨ w = 3 ∨ w = 4 ∨ w = 5 ∨ w = 6 ∨ w = 7 ∨ w = 8 := by
  obtain ⟨i, h1, rfl⟩ := in_nat (n := 8) (by decide) h
  rcases (show i = 8 ∨ i < 8 by omega) with rfl | q
  · exact Or.inr (Or.inr (Or.inr (Or.inr (Or.inr (Or.inr (Or.inr (Or.inr rfl)))))))
  · rcases w07 (f_in_nI (i := i) (n := 7) (b := 7) (by decide) (by omega) (by decide)) with e | e | e | e | e | e | e | e <;> rw [e] <;> decide
theorem i7 {s : Int32} (h : f_in s 0 7 = true) : ∃ i, i < 8 ∧ s = nI i := in_nat (n := 7) (by decide) h
theorem i23 {s : Int32} (h : f_in s 0 23 = true) : ∃ i, i < 24 ∧ s = nI i := in_nat (n := 23) (by decide) h
theorem and_ff {a b : Bool} : (a && b) = true ↔ a = true ∧ b = true := by cases a <;> cases b <;> simp
