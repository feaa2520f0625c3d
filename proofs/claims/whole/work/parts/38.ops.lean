/-! THE OPERATIONS, 1: sheets, the room, things -/
theorem wf_c {M : Mm} {k n c : Nat} {v : Int32} (h : c ≠ k) : (wf M k n v).1 c = M.1 c := by funext b; exact if_neg (fun q => h q.1)
theorem wf_at {M : Mm} {k n b : Nat} {v : Int32} (h : b < n) : (wf M k n v).1 k b = v := if_pos ⟨rfl, h⟩
theorem wfr_c {M : Mm} {k a n c : Nat} {v : Int32} (h : c ≠ k) : (wfr M k a n v).1 c = M.1 c := by funext b; exact if_neg (fun q => h q.1)
theorem wfr_at {M : Mm} {k a n b : Nat} {v : Int32} (h : a ≤ b ∧ b < a + n) : (wfr M k a n v).1 k b = v := if_pos ⟨rfl, h.1, h.2⟩
theorem wfr_o {M : Mm} {k a n b : Nat} {v : Int32} (h : b < a ∨ a + n ≤ b) : (wfr M k a n v).1 k b = M.1 k b := if_neg (fun q => by omega)
theorem wrow_c {M : Mm} {k c : Nat} {f : Nat → Int32} (h : c ≠ k) : (wrow M k f).1 c = M.1 c := if_neg h
theorem pic_c {M : Mm} {ρ β : Nat → Int32} {x y z : Int32} {c : Nat} (h : c ≠ 7) : (pic M ρ β x y z).1 c = M.1 c := (Oc_pic (Oc_rf 7 M)).1 c h
/-- one sheet has changed, and the status -/
theorem Rel_sheet {M M2 : Mm} {i : Nat} (hi : i < 8) (hR : Rel M) (hT : ∀ c, c ≠ 0 → c ≠ 96 → c ≠ 22 + 2 * i → c ≠ 23 + 2 * i → c ≠ 97 → c ≠ 98 → c ≠ 99 → M2.1 c = M.1 c) (h0 : M2.1 0 3 = M.1 0 3) (h7 : M2.1 96 7 = M.1 96 7) (h28 : M2.1 96 28 = M.1 96 28) (st : M2.1 0 12 = M2.1 96 1)
    (h97 : ∀ s, s ≠ i → M2.1 97 s = M.1 97 s) (h98 : ∀ s, s ≠ i → M2.1 98 s = M.1 98 s) (h99 : ∀ q, (q < 80 * i ∨ 80 * i + 80 ≤ q) → M2.1 99 q = M.1 99 q) (hi3 : R3s M2 i) : Rel M2 := by
  obtain ⟨⟨r1, r2, r3, r4, r5, r6, r8⟩, -⟩ := hR
  refine ⟨⟨R1_f h0 h7 (fun c hc => hT c (by omega) (by omega) (by omega) (by omega) (by omega) (by omega) (by omega)) r1, R2_f (hT 3 (by omega) (by omega) (by omega) (by omega) (by omega) (by omega) (by omega)) (hT 4 (by omega) (by omega) (by omega) (by omega) (by omega) (by omega) (by omega)) (hT 100 (by omega) (by omega) (by omega) (by omega) (by omega) (by omega) (by omega)) (hT 101 (by omega) (by omega) (by omega) (by omega) (by omega) (by omega) (by omega)) r2, fun s hs => ?_,
    R4_f (fun c hc => hT c (by omega) (by omega) (by omega) (by omega) (by omega) (by omega) (by omega)) r4, R5_f (hT 94 (by omega) (by omega) (by omega) (by omega) (by omega) (by omega) (by omega)) (hT 95 (by omega) (by omega) (by omega) (by omega) (by omega) (by omega) (by omega)) (hT 111 (by omega) (by omega) (by omega) (by omega) (by omega) (by omega) (by omega)) r5,
    R6_f (by rw [hT 20 (by omega) (by omega) (by omega) (by omega) (by omega) (by omega) (by omega)]) h28 (hT 21 (by omega) (by omega) (by omega) (by omega) (by omega) (by omega) (by omega)) (hT 112 (by omega) (by omega) (by omega) (by omega) (by omega) (by omega) (by omega)) r6,
    by rw [hT 15 (by omega) (by omega) (by omega) (by omega) (by omega) (by omega) (by omega)]; exact r8.1, by rw [hT 16 (by omega) (by omega) (by omega) (by omega) (by omega) (by omega) (by omega)]; exact r8.2⟩, st⟩
  by_cases e : s = i
  · rw [e]; exact hi3
  · obtain ⟨a1, a2⟩ := r3 s hs
    have e22 := hT (22 + 2 * s) (by omega) (by omega) (by omega) (by omega) (by omega) (by omega) (by omega)
    have e23 := hT (23 + 2 * s) (by omega) (by omega) (by omega) (by omega) (by omega) (by omega) (by omega)
    unfold R3s
    rw [e22, e23, h97 s e, h98 s e]
    refine ⟨a1, a2.imp id (fun ⟨b1, n, b2, b3, b4, b5⟩ => ⟨b1, n, b2, b3, b4, fun j hj => ?_⟩)⟩
    rw [h99 (80 * s + j) (by omega)]
    exact b5 j hj
theorem len80 {n : Int32} (h0 : 0 ≤ n) (h : n ≤ 80) : ∃ k, k ≤ 80 ∧ n = nI k := nI_of2 (n := 80) (M := 80) (by decide) (Int32.not_lt.mpr h0) h
theorem holds_64 {m : Nat} (hm : m ≤ 80) (i n : Int32) : f_holds (nI m) i n = (!decide (i < 0) && !decide (n < 0) && !decide ((nI m).toInt64 < i.toInt64 + n.toInt64)) := by
  have hmi := nI_toInt (n := m) (by omega)
  have e0 : (0 : Int32).toInt = 0 := by decide
  unfold f_holds
  by_cases h1 : i < 0
  · simp [h1]
  by_cases h2 : n < 0
  · simp [h2]
  rw [decide_eq_false h1, decide_eq_false h2]
  rw [Int32.lt_iff_toInt_lt, e0] at h1 h2
  have bi := Int32.toInt_lt i
  have bn := Int32.toInt_lt n
  have es : (i.toInt64 + n.toInt64).toInt = i.toInt + n.toInt := by
    rw [Int64.toInt_add, Int32.toInt_toInt64, Int32.toInt_toInt64]
    exact Int.bmod_eq_of_le (by omega) (by omega)
  by_cases h3 : nI m < n
  · have h4 : (nI m).toInt64 < i.toInt64 + n.toInt64 := by
      rw [Int64.lt_iff_toInt_lt, es, Int32.toInt_toInt64]
      rw [Int32.lt_iff_toInt_lt] at h3
      omega
    rw [decide_eq_true h3, decide_eq_true h4]; rfl
  · rw [decide_eq_false h3]
    rw [Int32.lt_iff_toInt_lt, hmi] at h3
    have ed : (nI m - n).toInt = (m : Int) - n.toInt := by
      rw [(t_sub (a := nI m) (b := n) (A := 80) (B := 80) (by simp only [na]; omega) (by simp only [na]; omega) (by decide)).1, hmi]
    by_cases h4 : nI m - n < i
    · have h5 : (nI m).toInt64 < i.toInt64 + n.toInt64 := by
        rw [Int64.lt_iff_toInt_lt, es, Int32.toInt_toInt64, hmi]
        rw [Int32.lt_iff_toInt_lt, ed] at h4
        omega
      rw [decide_eq_true h4, decide_eq_true h5]; rfl
    · have h5 : ¬ (nI m).toInt64 < i.toInt64 + n.toInt64 := by
        rw [Int64.lt_iff_toInt_lt, es, Int32.toInt_toInt64, hmi]
        rw [Int32.lt_iff_toInt_lt, ed] at h4
        omega
      rw [decide_eq_false h4, decide_eq_false h5]; rfl
theorem holds_1 {m : Nat} (hm : m ≤ 80) (q : Int32) : f_holds (nI m) q 1 = f_in q 0 (nI m - 1) := by
  have hmi := nI_toInt (n := m) (by omega)
  have e0 : (0 : Int32).toInt = 0 := by decide
  have e1 : (1 : Int32).toInt = 1 := by decide
  have ed : (nI m - 1).toInt = (m : Int) - 1 := by
    rw [(t_sub (a := nI m) (b := 1) (A := 80) (B := 1) (by simp only [na]; omega) (by decide) (by decide)).1, hmi, e1]
  unfold f_holds f_in
  rw [show (decide ((1 : Int32) < 0)) = false by decide]
  by_cases h1 : q < 0
  · simp [h1]
  · rw [decide_eq_false h1]
    by_cases h2 : nI m < 1
    · have h3 : nI m - 1 < q := by
        rw [Int32.lt_iff_toInt_lt] at h1 h2 ⊢
        rw [e0] at h1
        rw [hmi, e1] at h2
        rw [ed]
        omega
      rw [decide_eq_true h2, decide_eq_true h3]; rfl
    · rw [decide_eq_false h2]; cases decide (nI m - 1 < q) <;> rfl
theorem holds_ix {m : Nat} (hm : m ≤ 80) {i n : Int32} (h : f_holds (nI m) i n = true) : ∃ a b, i = nI a ∧ n = nI b ∧ a + b ≤ m := by
  rw [holds_64 hm] at h
  simp only [Bool.and_eq_true, Bool.not_eq_true', decide_eq_false_iff_not] at h
  obtain ⟨⟨h1, h2⟩, h3⟩ := h
  obtain ⟨a, ha, rfl⟩ := nI_of h1
  obtain ⟨b, hb, rfl⟩ := nI_of h2
  have ei := nI_toInt ha
  have en := nI_toInt hb
  have hmi := nI_toInt (n := m) (by omega)
  have es : ((nI a).toInt64 + (nI b).toInt64).toInt = (nI a).toInt + (nI b).toInt := by
    rw [Int64.toInt_add, Int32.toInt_toInt64, Int32.toInt_toInt64]
    exact Int.bmod_eq_of_le (by omega) (by omega)
  rw [Int64.lt_iff_toInt_lt, es, Int32.toInt_toInt64, hmi, ei, en] at h3
  exact ⟨a, b, rfl, rfl, by omega⟩
theorem neg_1 : (-1 : Int32) < 0 := by decide
theorem lane_n {l : Int32} (h : l = -1 ∨ 0 ≤ l) : (decide (l = -1) = true ∧ l < 0) ∨ (decide (l = -1) = false ∧ ¬ l < 0) := by
  rcases h with h | h
  · exact Or.inl ⟨decide_eq_true h, by rw [h]; decide⟩
  · refine Or.inr ⟨decide_eq_false (fun q => ?_), Int32.not_lt.mpr h⟩
    rw [q] at h; exact absurd h (by decide)
theorem lane_in {l : Int32} (h : f_in l 0 2 = true) : 0 ≤ l := by
  simp only [f_in, Bool.and_eq_true, Bool.not_eq_true', decide_eq_false_iff_not] at h
  exact Int32.not_lt.mp h.1
theorem op_sheet {M : Mm} (hR : Rel M) (s l n : Int32) : OPi mX11_sheet mX12_sheet 2 2 [.int s, .int l, .int n] M := by
  cases hb : (f_in s 0 7 && f_in l 0 2 && !decide (80 < n))
  · exact OPi_b hR (x_sheet_bad M s l n hb) (m_sheet_bad M s l n hb)
  · simp only [Bool.and_eq_true, Bool.not_eq_true', decide_eq_false_iff_not] at hb
    obtain ⟨⟨h1, h2⟩, h3⟩ := hb
    obtain ⟨i, hi, rfl⟩ := i7 h1
    have h80 : n ≤ 80 := Int32.not_lt.mp h3
    by_cases hn : n < 0
    · exact OPi_st hR (x_sheet_neg M hi l n h2 h80 hn) (fun M1 _ => m_sheet_neg M1 hi l n h2 h80 hn)
    · have hn0 : 0 ≤ n := Int32.not_lt.mp hn
      obtain ⟨m, hm, rfl⟩ := len80 hn0 h80
      refine OPi_X (x_sheet_ok M hi l (nI m) h2 h80 hn0) (m_sheet_ok _ hi l (nI m) h2 h80 hn0) ?_
      exact Rel_sheet hi hR (fun c a0 a1 a2 a3 a4 a5 a6 => ((wfr_c (by omega)).trans ((wi_c (by omega)).trans ((wi_c (by omega)).trans ((wi_c (by omega)).trans ((wi_c (by omega)).trans ((wi_c (by omega)).trans ((wf_c (by omega)).trans ((wi_c (by omega)).trans (wi_c (by omega))))))))))) ((congrFun (wfr_c (by omega)) _).trans ((wi_r (by omega)).trans ((wi_r (by omega)).trans ((wi_r (by omega)).trans ((wi_r (by omega)).trans ((wi_r (by omega)).trans ((congrFun (wf_c (by omega)) _).trans ((wi_r (by omega)).trans (wi_r (by omega)))))))))) ((congrFun (wfr_c (by omega)) _).trans ((wi_r (by omega)).trans ((wi_r (by omega)).trans ((wi_r (by omega)).trans ((wi_r (by omega)).trans ((wi_r (by omega)).trans ((congrFun (wf_c (by omega)) _).trans ((wi_r (by omega)).trans (wi_r (by omega)))))))))) ((congrFun (wfr_c (by omega)) _).trans ((wi_r (by omega)).trans ((wi_r (by omega)).trans ((wi_r (by omega)).trans ((wi_r (by omega)).trans ((wi_r (by omega)).trans ((congrFun (wf_c (by omega)) _).trans ((wi_r (by omega)).trans (wi_r (by omega)))))))))) (((congrFun (wfr_c (by omega)) _).trans ((wi_r (by omega)).trans ((wi_r (by omega)).trans ((wi_r (by omega)).trans ((wi_r (by omega)).trans wi_s))))).trans ((congrFun (wfr_c (by omega)) _).trans ((wi_r (by omega)).trans ((wi_r (by omega)).trans wi_s))).symm) (fun s hs => ((congrFun (wfr_c (by omega)) _).trans ((wi_r (by omega)).trans ((wi_r (by omega)).trans ((wi_r (by omega)).trans ((wi_r (by omega)).trans ((wi_r (by omega)).trans ((congrFun (wf_c (by omega)) _).trans ((wi_r (by omega)).trans (wi_r (by omega))))))))))) (fun s hs => ((congrFun (wfr_c (by omega)) _).trans ((wi_r (by omega)).trans ((wi_r (by omega)).trans ((wi_r (by omega)).trans ((wi_r (by omega)).trans ((wi_r (by omega)).trans ((congrFun (wf_c (by omega)) _).trans ((wi_r (by omega)).trans (wi_r (by omega))))))))))) (fun q hq => ((wfr_o (by omega)).trans ((wi_r (by omega)).trans ((wi_r (by omega)).trans ((wi_r (by omega)).trans ((wi_r (by omega)).trans ((wi_r (by omega)).trans ((congrFun (wf_c (by omega)) _).trans ((wi_r (by omega)).trans (wi_r (by omega))))))))))) ⟨((congrFun (wfr_c (by omega)) _).trans ((wi_r (by omega)).trans wi_s)).trans ((congrFun (wfr_c (by omega)) _).trans ((wi_r (by omega)).trans ((wi_r (by omega)).trans ((wi_r (by omega)).trans ((wi_r (by omega)).trans ((wi_r (by omega)).trans ((congrFun (wf_c (by omega)) _).trans ((wi_r (by omega)).trans wi_s)))))))).symm, Or.inr ⟨Eq.mpr (congrArg (fun z => (0 : Int32) ≤ z) ((congrFun (wfr_c (by omega)) _).trans ((wi_r (by omega)).trans ((wi_r (by omega)).trans ((wi_r (by omega)).trans ((wi_r (by omega)).trans ((wi_r (by omega)).trans ((congrFun (wf_c (by omega)) _).trans ((wi_r (by omega)).trans wi_s))))))))) (lane_in h2), m, hm, ((congrFun (wfr_c (by omega)) _).trans ((wi_r (by omega)).trans ((wi_r (by omega)).trans ((wi_r (by omega)).trans ((wi_r (by omega)).trans ((wi_r (by omega)).trans ((congrFun (wf_c (by omega)) _).trans wi_s))))))), ((congrFun (wfr_c (by omega)) _).trans wi_s), fun j hj => (wfr_at (by omega)).trans ((congrFun (wfr_c (by omega)) _).trans ((wi_r (by omega)).trans ((wi_r (by omega)).trans ((wi_r (by omega)).trans ((wi_r (by omega)).trans ((wi_r (by omega)).trans (wf_at (by omega)))))))).symm⟩⟩
theorem op_set {M : Mm} (hR : Rel M) (s q v : Int32) : OPi mX11_set mX12_set 2 2 [.int s, .int q, .int v] M := by
  cases hb : f_in s 0 7
  · exact OPi_b hR (x_set_bad M s q v hb) (m_set_bad M s q v hb)
  · obtain ⟨i, hi, rfl⟩ := i7 hb
    have hl := hR.1.2.2.1 i hi
    have e97 : ∀ M1, Q0 M M1 → M1.1 97 i = M.1 (22 + 2 * i) 1 := fun M1 q => by rw [q.1 97 (by unfold cc; omega)]; exact hl.1
    rcases lane_n (hl.2.imp id (fun q => q.1)) with ⟨d1, d2⟩ | ⟨d1, d2⟩
    · exact OPi_st hR (x_set_null M hi q v d1) (fun M1 h => m_set_null M1 hi q v (by rw [e97 M1 h]; exact d2))
    · have e98 := hl.2
      rcases e98 with e98 | ⟨b1, m, hm, b3, b4, b5⟩
      · rw [e98] at d2; exact absurd neg_1 d2
      have f98 : ∀ M1, Q0 M M1 → M1.1 98 i = nI m := fun M1 h => by rw [h.1 98 (by unfold cc; omega)]; exact b4
      cases hh : f_holds (nI m) q 1
      · exact OPi_st hR (x_set_place M hi q v d1 (by rw [b3]; exact hh)) (fun M1 h => m_set_place M1 hi q v (by rw [e97 M1 h]; exact d2) (by rw [f98 M1 h, ← holds_1 hm]; exact hh))
      · obtain ⟨j, _, rfl, -, hjm⟩ := holds_ix hm hh
        have hj : j < m := by
          have h9 := hh
          rw [holds_1 hm] at h9
          obtain ⟨j2, h2, e2⟩ : ∃ j2, j2 < m ∧ nI j = nI j2 := by
            rcases Nat.eq_zero_or_pos m with z | z
            · subst z
              have h1 := (in_iff _ _ _).mp h9
              have e1 : (0 : Int32).toInt = 0 := by decide
              have e2 : (nI 0 - 1).toInt = -1 := by decide
              rw [e1, e2] at h1
              omega
            · obtain ⟨k, h1, h2⟩ := in_nat (n := m - 1) (by rw [show nI m - 1 = nI (m - 1) from pk_sub (a := m) (b := 1) z, nI_toInt (by omega)]) h9
              exact ⟨k, by omega, h2⟩
          have := (nI_eq (a := j) (b := j2) (by omega) (by omega)).mp e2
          omega
        have e97' : (wi (wi M (23 + 2 * i) j (f_lane (M.1 (22 + 2 * i) 1) v)) 0 12 0).1 97 i = M.1 (22 + 2 * i) 1 := ((wi_r (by omega)).trans (wi_r (by omega))).trans hl.1
        have hm2 := m_set_ok (wi (wi M (23 + 2 * i) j (f_lane (M.1 (22 + 2 * i) 1) v)) 0 12 0) hi (j := j) (by omega) v (by rw [e97']; exact d2) (by rw [show (wi (wi M (23 + 2 * i) j (f_lane (M.1 (22 + 2 * i) 1) v)) 0 12 0).1 98 i = nI m from ((wi_r (by omega)).trans (wi_r (by omega))).trans b4, ← holds_1 hm]; exact hh)
        rw [e97'] at hm2
        refine OPi_X (x_set_ok M hi (j := j) (by omega) v d1 (by rw [b3]; exact hh)) hm2 ?_
        refine Rel_sheet hi hR (fun c a0 a1 a2 a3 a4 a5 a6 => ((wi_c (by omega)).trans ((wi_c (by omega)).trans ((wi_c (by omega)).trans ((wi_c (by omega)).trans (wi_c (by omega))))))) ((wi_r (by omega)).trans ((wi_r (by omega)).trans ((wi_r (by omega)).trans ((wi_r (by omega)).trans (wi_r (by omega)))))) ((wi_r (by omega)).trans ((wi_r (by omega)).trans ((wi_r (by omega)).trans ((wi_r (by omega)).trans (wi_r (by omega)))))) ((wi_r (by omega)).trans ((wi_r (by omega)).trans ((wi_r (by omega)).trans ((wi_r (by omega)).trans (wi_r (by omega)))))) (((wi_r (by omega)).trans ((wi_r (by omega)).trans ((wi_r (by omega)).trans wi_s))).trans ((wi_r (by omega)).trans wi_s).symm) (fun s hs => ((wi_r (by omega)).trans ((wi_r (by omega)).trans ((wi_r (by omega)).trans ((wi_r (by omega)).trans (wi_r (by omega))))))) (fun s hs => ((wi_r (by omega)).trans ((wi_r (by omega)).trans ((wi_r (by omega)).trans ((wi_r (by omega)).trans (wi_r (by omega))))))) (fun q hq => ((wi_r (by omega)).trans ((wi_r (by omega)).trans ((wi_r (by omega)).trans ((wi_r (by omega)).trans (wi_r (by omega))))))) ⟨(((wi_r (by omega)).trans ((wi_r (by omega)).trans ((wi_r (by omega)).trans ((wi_r (by omega)).trans (wi_r (by omega)))))).trans hl.1).trans ((wi_r (by omega)).trans ((wi_r (by omega)).trans ((wi_r (by omega)).trans ((wi_r (by omega)).trans (wi_r (by omega)))))).symm, Or.inr ⟨Eq.mpr (congrArg (fun z => (0 : Int32) ≤ z) ((wi_r (by omega)).trans ((wi_r (by omega)).trans ((wi_r (by omega)).trans ((wi_r (by omega)).trans (wi_r (by omega))))))) (Int32.not_lt.mp d2), m, hm, ((wi_r (by omega)).trans ((wi_r (by omega)).trans ((wi_r (by omega)).trans ((wi_r (by omega)).trans (wi_r (by omega)))))).trans b3, ((wi_r (by omega)).trans ((wi_r (by omega)).trans ((wi_r (by omega)).trans ((wi_r (by omega)).trans (wi_r (by omega)))))).trans b4, fun k hk => ?_⟩⟩
        by_cases e : k = j
        · subst e
          exact wi_s.trans ((wi_r (by omega)).trans ((wi_r (by omega)).trans ((wi_r (by omega)).trans ((wi_r (by omega)).trans wi_s)))).symm
        · exact (((wi_r (by omega)).trans ((wi_r (by omega)).trans ((wi_r (by omega)).trans ((wi_r (by omega)).trans (wi_r (by omega)))))).trans (b5 k hk)).trans ((wi_r (by omega)).trans ((wi_r (by omega)).trans ((wi_r (by omega)).trans ((wi_r (by omega)).trans (wi_r (by omega)))))).symm
theorem op_drop {M : Mm} (hR : Rel M) (s : Int32) : OPi mX11_drop mX12_drop 2 2 [.int s] M := by
  cases hb : f_in s 0 7
  · exact OPi_b hR (x_drop_bad M s hb) (m_drop_bad M s hb)
  · obtain ⟨i, hi, rfl⟩ := i7 hb
    have hl := hR.1.2.2.1 i hi
    have e97 : ∀ M1, Q0 M M1 → M1.1 97 i = M.1 (22 + 2 * i) 1 := fun M1 q => by rw [q.1 97 (by unfold cc; omega)]; exact hl.1
    rcases lane_n (hl.2.imp id (fun q => q.1)) with ⟨d1, d2⟩ | ⟨d1, d2⟩
    · exact OPi_st hR (x_drop_null M hi d1) (fun M1 h => m_drop_null M1 hi (by rw [e97 M1 h]; exact d2))
    · rcases hl.2 with e98 | ⟨b1, m, hm, b3, b4, b5⟩
      · rw [e98] at d2; exact absurd neg_1 d2
      have f98 : (wi (wi (wi M (22 + 2 * i) 1 (-1)) (22 + 2 * i) 2 0) 0 12 0).1 98 i = M.1 (22 + 2 * i) 2 := (((wi_r (by omega)).trans ((wi_r (by omega)).trans (wi_r (by omega)))).trans b4).trans b3.symm
      have f97 : (wi (wi (wi M (22 + 2 * i) 1 (-1)) (22 + 2 * i) 2 0) 0 12 0).1 97 i = M.1 (22 + 2 * i) 1 := ((wi_r (by omega)).trans ((wi_r (by omega)).trans (wi_r (by omega)))).trans hl.1
      have hm2 := m_drop_ok (wi (wi (wi M (22 + 2 * i) 1 (-1)) (22 + 2 * i) 2 0) 0 12 0) hi (by rw [f97]; exact d2)
      rw [f98] at hm2
      refine OPi_X (x_drop_ok M hi d1) hm2 ?_
      exact Rel_sheet hi hR (fun c a0 a1 a2 a3 a4 a5 a6 => ((wi_c (by omega)).trans ((wi_c (by omega)).trans ((wi_c (by omega)).trans ((wi_c (by omega)).trans ((wi_c (by omega)).trans (wi_c (by omega)))))))) ((wi_r (by omega)).trans ((wi_r (by omega)).trans ((wi_r (by omega)).trans ((wi_r (by omega)).trans ((wi_r (by omega)).trans (wi_r (by omega))))))) ((wi_r (by omega)).trans ((wi_r (by omega)).trans ((wi_r (by omega)).trans ((wi_r (by omega)).trans ((wi_r (by omega)).trans (wi_r (by omega))))))) ((wi_r (by omega)).trans ((wi_r (by omega)).trans ((wi_r (by omega)).trans ((wi_r (by omega)).trans ((wi_r (by omega)).trans (wi_r (by omega))))))) (((wi_r (by omega)).trans ((wi_r (by omega)).trans ((wi_r (by omega)).trans wi_s))).trans ((wi_r (by omega)).trans wi_s).symm) (fun s hs => ((wi_r (by omega)).trans ((wi_r (by omega)).trans ((wi_r (by omega)).trans ((wi_r (by omega)).trans ((wi_r (by omega)).trans (wi_r (by omega)))))))) (fun s hs => ((wi_r (by omega)).trans ((wi_r (by omega)).trans ((wi_r (by omega)).trans ((wi_r (by omega)).trans ((wi_r (by omega)).trans (wi_r (by omega)))))))) (fun q hq => ((wi_r (by omega)).trans ((wi_r (by omega)).trans ((wi_r (by omega)).trans ((wi_r (by omega)).trans ((wi_r (by omega)).trans (wi_r (by omega)))))))) ⟨wi_s.trans ((wi_r (by omega)).trans ((wi_r (by omega)).trans ((wi_r (by omega)).trans ((wi_r (by omega)).trans ((wi_r (by omega)).trans wi_s))))).symm, Or.inl ((wi_r (by omega)).trans ((wi_r (by omega)).trans ((wi_r (by omega)).trans ((wi_r (by omega)).trans ((wi_r (by omega)).trans wi_s)))))⟩
theorem op_copy {M : Mm} (hR : Rel M) (sa i sb j n : Int32) : OPi mX11_copy mX12_copy 2 2 [.int sa, .int i, .int sb, .int j, .int n] M := by
  cases hb0 : (f_in sa 0 7 && f_in sb 0 7)
  · exact OPi_b hR (x_copy_bad M sa i sb j n hb0) (m_copy_bad M sa i sb j n hb0)
  · obtain ⟨ha1, hb1⟩ := and_ff.mp hb0
    obtain ⟨a, ha, rfl⟩ := i7 ha1
    obtain ⟨b, hb, rfl⟩ := i7 hb1
    have hla := hR.1.2.2.1 a ha
    have hlb := hR.1.2.2.1 b hb
    have ea : ∀ M1, Q0 M M1 → M1.1 97 a = M.1 (22 + 2 * a) 1 := fun M1 q => by rw [q.1 97 (by unfold cc; omega)]; exact hla.1
    have eb : ∀ M1, Q0 M M1 → M1.1 97 b = M.1 (22 + 2 * b) 1 := fun M1 q => by rw [q.1 97 (by unfold cc; omega)]; exact hlb.1
    rcases lane_n (hla.2.imp id (fun q => q.1)) with ⟨da1, da2⟩ | ⟨da1, da2⟩
    · exact OPi_st hR (x_copy_null M ha hb i j n (by rw [da1]; rfl)) (fun M1 h => m_copy_null0 M1 ha hb i j n (by rw [ea M1 h]; exact da2))
    rcases lane_n (hlb.2.imp id (fun q => q.1)) with ⟨db1, db2⟩ | ⟨db1, db2⟩
    · exact OPi_st hR (x_copy_null M ha hb i j n (by rw [db1, Bool.or_true])) (fun M1 h => m_copy_null1 M1 ha hb i j n (by rw [ea M1 h]; exact da2) (by rw [eb M1 h]; exact db2))
    by_cases hl : M.1 (22 + 2 * a) 1 = M.1 (22 + 2 * b) 1
    · rcases hla.2 with e98 | ⟨_, ma, hma, ba3, ba4, ba5⟩
      · rw [e98] at da2; exact absurd neg_1 da2
      rcases hlb.2 with e98 | ⟨_, mb, hmb, bb3, bb4, bb5⟩
      · rw [e98] at db2; exact absurd neg_1 db2
      have fa : ∀ M1, Q0 M M1 → M1.1 98 a = nI ma := fun M1 h => by rw [h.1 98 (by unfold cc; omega)]; exact ba4
      have fb : ∀ M1, Q0 M M1 → M1.1 98 b = nI mb := fun M1 h => by rw [h.1 98 (by unfold cc; omega)]; exact bb4
      cases hh : (f_holds (nI ma) i n && f_holds (nI mb) j n)
      · refine OPi_st hR (x_copy_place M ha hb i j n da1 db1 hl (by rw [ba3, bb3]; exact hh)) (fun M1 h => m_copy_place M1 ha hb i j n (by rw [ea M1 h]; exact da2) (by rw [eb M1 h]; exact db2) (by rw [ea M1 h, eb M1 h]; exact hl) ?_)
        rw [fa M1 h, fb M1 h]
        rw [holds_64 hma, holds_64 hmb] at hh
        revert hh
        cases decide (i < 0) <;> cases decide (j < 0) <;> cases decide (n < 0) <;> cases decide ((nI ma).toInt64 < i.toInt64 + n.toInt64) <;> cases decide ((nI mb).toInt64 < j.toInt64 + n.toInt64) <;> decide
      · obtain ⟨hha, hhb⟩ := and_ff.mp hh
        obtain ⟨i, n, rfl, rfl, hin⟩ := holds_ix hma hha
        obtain ⟨j, n2, rfl, hn2, hjn⟩ := holds_ix hmb hhb
        have hnn : n = n2 := by
          have h3 := hhb
          rw [hn2] at h3
          rw [holds_64 hmb] at h3
          by_cases z : n < 2 ^ 31 ∧ n2 < 2 ^ 31
          · exact (nI_eq z.1 z.2).mp hn2
          · omega
        subst hnn
        have ga := hha
        have gb := hhb
        rw [holds_64 hma] at ga
        rw [holds_64 hmb] at gb
        simp only [Bool.and_eq_true, Bool.not_eq_true', decide_eq_false_iff_not] at ga gb
        have c97a : (wi (wcp M (23 + 2 * a) (23 + 2 * b) i j n) 0 12 0).1 97 a = M.1 (22 + 2 * a) 1 := ((wi_r (by omega)).trans (congrFun (wrow_c (by omega)) _)).trans hla.1
        have c97b : (wi (wcp M (23 + 2 * a) (23 + 2 * b) i j n) 0 12 0).1 97 b = M.1 (22 + 2 * b) 1 := ((wi_r (by omega)).trans (congrFun (wrow_c (by omega)) _)).trans hlb.1
        have c98a : (wi (wcp M (23 + 2 * a) (23 + 2 * b) i j n) 0 12 0).1 98 a = nI ma := ((wi_r (by omega)).trans (congrFun (wrow_c (by omega)) _)).trans ba4
        have c98b : (wi (wcp M (23 + 2 * a) (23 + 2 * b) i j n) 0 12 0).1 98 b = nI mb := ((wi_r (by omega)).trans (congrFun (wrow_c (by omega)) _)).trans bb4
        have e99 : (wi (wcp M (23 + 2 * a) (23 + 2 * b) i j n) 0 12 0).1 99 = M.1 99 := (wi_c (by omega)).trans (wrow_c (by omega))
        refine OPi_X (x_copy_ok M ha hb da1 db1 hl (by omega) (by omega) (by rw [ba3]; exact hha) (by rw [bb3]; exact hhb)) (m_copy_ok _ ha hb (by omega) (by omega) (by rw [c97a]; exact da2) (by rw [c97b]; exact db2) (by rw [c97a, c97b]; exact hl) (by rw [c98a]; exact ga.2) (by rw [c98b]; exact gb.2)) ?_
        refine Rel_sheet hb hR (fun c a0 a1 a2 a3 a4 a5 a6 => ((wrow_c (by omega)).trans ((wi_c (by omega)).trans ((wi_c (by omega)).trans ((wi_c (by omega)).trans (wrow_c (by omega))))))) ((congrFun (wrow_c (by omega)) _).trans ((wi_r (by omega)).trans ((wi_r (by omega)).trans ((wi_r (by omega)).trans (congrFun (wrow_c (by omega)) _))))) ((congrFun (wrow_c (by omega)) _).trans ((wi_r (by omega)).trans ((wi_r (by omega)).trans ((wi_r (by omega)).trans (congrFun (wrow_c (by omega)) _))))) ((congrFun (wrow_c (by omega)) _).trans ((wi_r (by omega)).trans ((wi_r (by omega)).trans ((wi_r (by omega)).trans (congrFun (wrow_c (by omega)) _))))) (((congrFun (wrow_c (by omega)) _).trans ((wi_r (by omega)).trans ((wi_r (by omega)).trans wi_s))).trans ((congrFun (wrow_c (by omega)) _).trans wi_s).symm) (fun s hs => ((congrFun (wrow_c (by omega)) _).trans ((wi_r (by omega)).trans ((wi_r (by omega)).trans ((wi_r (by omega)).trans (congrFun (wrow_c (by omega)) _)))))) (fun s hs => ((congrFun (wrow_c (by omega)) _).trans ((wi_r (by omega)).trans ((wi_r (by omega)).trans ((wi_r (by omega)).trans (congrFun (wrow_c (by omega)) _)))))) (fun q hq => (congrFun (wrow_at _ _ _) q).trans (by rw [e99]; exact if_neg (by omega))) ⟨(((congrFun (wrow_c (by omega)) _).trans ((wi_r (by omega)).trans ((wi_r (by omega)).trans ((wi_r (by omega)).trans (congrFun (wrow_c (by omega)) _))))).trans hlb.1).trans ((congrFun (wrow_c (by omega)) _).trans ((wi_r (by omega)).trans ((wi_r (by omega)).trans ((wi_r (by omega)).trans (congrFun (wrow_c (by omega)) _))))).symm, Or.inr ⟨Eq.mpr (congrArg (fun z => (0 : Int32) ≤ z) ((congrFun (wrow_c (by omega)) _).trans ((wi_r (by omega)).trans ((wi_r (by omega)).trans ((wi_r (by omega)).trans (congrFun (wrow_c (by omega)) _)))))) (Int32.not_lt.mp db2), mb, hmb, ((congrFun (wrow_c (by omega)) _).trans ((wi_r (by omega)).trans ((wi_r (by omega)).trans ((wi_r (by omega)).trans (congrFun (wrow_c (by omega)) _))))).trans bb3, ((congrFun (wrow_c (by omega)) _).trans ((wi_r (by omega)).trans ((wi_r (by omega)).trans ((wi_r (by omega)).trans (congrFun (wrow_c (by omega)) _))))).trans bb4, fun k hk => ?_⟩⟩
        refine ((congrFun (wrow_at _ _ _) _).trans ?_).trans (((congrFun (wrow_c (by omega)) _).trans ((wi_r (by omega)).trans ((wi_r (by omega)).trans ((wi_r (by omega)).trans (congrFun (wrow_at _ _ _) _)))))).symm
        rw [e99]
        unfold cpU va_cpy
        by_cases u : j ≤ k ∧ k < j + n
        · rw [if_pos (by omega), if_pos u, show 80 * a + i + (80 * b + k - (80 * b + j)) = 80 * a + (i + (k - j)) by omega]
          exact ba5 _ (by omega)
        · rw [if_neg (by omega), if_neg u]
          exact bb5 k hk
    · exact OPi_st hR (x_copy_store M ha hb i j n da1 db1 hl) (fun M1 h => m_copy_store M1 ha hb i j n (by rw [ea M1 h]; exact da2) (by rw [eb M1 h]; exact db2) (by rw [ea M1 h, eb M1 h]; exact hl))
