/-! THE OPERATIONS, 2: the room, things, pictures -/
theorem Rel_room {M M2 : Mm} (hR : Rel M) (h : ∀ c, c ≠ 3 → c ≠ 4 → c ≠ 5 → c ≠ 96 → c ≠ 100 → c ≠ 101 → M2.1 c = M.1 c) (h9 : ∀ j, j ≠ 0 → M2.1 96 j = M.1 96 j) (r2 : R2 M2) : Rel M2 := by
  obtain ⟨⟨r1, -, r3, r4, r5, r6, r8⟩, st⟩ := hR
  have e0 := h 0 (by omega) (by omega) (by omega) (by omega) (by omega) (by omega)
  have e20 := h 20 (by omega) (by omega) (by omega) (by omega) (by omega) (by omega)
  exact ⟨⟨R1_f (by rw [e0]) (h9 7 (by omega)) (fun c hc => h c (by omega) (by omega) (by omega) (by omega) (by omega) (by omega)) r1, r2, R3_f (fun c hc => h c (by omega) (by omega) (by omega) (by omega) (by omega) (by omega)) r3, R4_f (fun c hc => h c (by omega) (by omega) (by omega) (by omega) (by omega) (by omega)) r4,
    R5_f (h 94 (by omega) (by omega) (by omega) (by omega) (by omega) (by omega)) (h 95 (by omega) (by omega) (by omega) (by omega) (by omega) (by omega)) (h 111 (by omega) (by omega) (by omega) (by omega) (by omega) (by omega)) r5, R6_f (by rw [e20]) (h9 28 (by omega)) (h 21 (by omega) (by omega) (by omega) (by omega) (by omega) (by omega)) (h 112 (by omega) (by omega) (by omega) (by omega) (by omega) (by omega)) r6,
    by rw [h 15 (by omega) (by omega) (by omega) (by omega) (by omega) (by omega)]; exact r8.1, by rw [h 16 (by omega) (by omega) (by omega) (by omega) (by omega) (by omega)]; exact r8.2⟩, by rw [e0, h9 1 (by omega)]; exact st⟩
theorem Rel_thing {M M2 : Mm} {i : Nat} (hi : i < 24) (hR : Rel M) (h : ∀ c, c ≠ 0 → c ≠ 38 + i → c ≠ 96 → c ≠ 102 → c ≠ 103 → c ≠ 104 → M2.1 c = M.1 c) (h0 : M2.1 0 12 = M.1 0 12) (h1 : M2.1 96 1 = M.1 96 1) (h28 : M2.1 96 28 = M.1 96 28) (r1 : R1 M2) : Rel M2 := by
  obtain ⟨⟨-, r2, r3, r4, r5, r6, r8⟩, st⟩ := hR
  have e20 := h 20 (by omega) (by omega) (by omega) (by omega) (by omega) (by omega)
  exact ⟨⟨r1, R2_f (h 3 (by omega) (by omega) (by omega) (by omega) (by omega) (by omega)) (h 4 (by omega) (by omega) (by omega) (by omega) (by omega) (by omega)) (h 100 (by omega) (by omega) (by omega) (by omega) (by omega) (by omega)) (h 101 (by omega) (by omega) (by omega) (by omega) (by omega) (by omega)) r2, R3_f (fun c hc => h c (by omega) (by omega) (by omega) (by omega) (by omega) (by omega)) r3, R4_f (fun c hc => h c (by omega) (by omega) (by omega) (by omega) (by omega) (by omega)) r4,
    R5_f (h 94 (by omega) (by omega) (by omega) (by omega) (by omega) (by omega)) (h 95 (by omega) (by omega) (by omega) (by omega) (by omega) (by omega)) (h 111 (by omega) (by omega) (by omega) (by omega) (by omega) (by omega)) r5, R6_f (by rw [e20]) h28 (h 21 (by omega) (by omega) (by omega) (by omega) (by omega) (by omega)) (h 112 (by omega) (by omega) (by omega) (by omega) (by omega) (by omega)) r6,
    by rw [h 15 (by omega) (by omega) (by omega) (by omega) (by omega) (by omega)]; exact r8.1, by rw [h 16 (by omega) (by omega) (by omega) (by omega) (by omega) (by omega)]; exact r8.2⟩, by rw [h0, h1]; exact st⟩
theorem gT2 {M : Mm} (hR : Rel0 M) : ∃ N, M.1 0 3 = nI N ∧ N ≤ 24 ∧ M.1 96 7 = nI N ∧ (∀ i, i < N → RT (cTX M i) (cTY M i) (cTZ M i)) ∧ (∀ i, i < N → M.1 (38 + i) 0 = M.1 102 i ∧ M.1 (38 + i) 1 = M.1 103 i ∧ M.1 (38 + i) 2 = M.1 104 i) ∧ ∀ M1, M1.1 96 7 = M.1 96 7 → (∀ c, 100 ≤ c → c ≤ 104 → M1.1 c = M.1 c) → MA M1 N (M.1 3) (M.1 4) (cTX M) (cTY M) (cTZ M) := by
  obtain ⟨⟨N, a1, a2, a3, a4⟩, ⟨b1, b2, b3, b4⟩, -⟩ := hR
  refine ⟨N, a1, a3, a2, fun i hi => (a4 i hi).2.2.2, fun i hi => ⟨(a4 i hi).1, (a4 i hi).2.1, (a4 i hi).2.2.1⟩, fun M1 q0 q => ⟨q0.trans a2, a3, fun t ht => ?_⟩⟩
  obtain ⟨c1, c2, c3, c4⟩ := a4 t ht
  refine ⟨(q 100 (by omega) (by omega)).trans b1, (q 101 (by omega) (by omega)).trans b2, ?_, ?_, ?_, b3, b4, c4⟩
  · rw [q 102 (by omega) (by omega)]; exact c1.symm
  · rw [q 103 (by omega) (by omega)]; exact c2.symm
  · rw [q 104 (by omega) (by omega)]; exact c3.symm
theorem Q0_MA {M M1 : Mm} {N : Nat} (h : ∀ M1, M1.1 96 7 = M.1 96 7 → (∀ c, 100 ≤ c → c ≤ 104 → M1.1 c = M.1 c) → MA M1 N (M.1 3) (M.1 4) (cTX M) (cTY M) (cTZ M)) (q : Q0 M M1) : MA M1 N (M.1 3) (M.1 4) (cTX M) (cTY M) (cTZ M) := h M1 q.2.2.1 (fun c _ _ => q.1 c (by unfold cc; omega))
theorem op_room {M : Mm} (hR : Rel M) (w v : Int32) : OPi mX11_room mX12_room 1 1 [.int w, .int v] M := by
  cases hb : f_in w 0 6
  · exact OPi_b hR (x_room_bad0 M w v hb) (m_room_bad0 M w v hb)
  · obtain ⟨j, hj, rfl⟩ := in_nat (n := 6) (by decide) hb
    cases hv : f_in v (nLeast j) (nMost j)
    · exact OPi_b hR (x_room_bad1 M hj v hv) (m_room_bad1 M hj v hv)
    · obtain ⟨b1, b2, b3, b4⟩ := hR.1.2.1
      have hm2 := m_room_ok (wi M 3 j v) hj v hv
      rw [show (wi M 3 j v).1 100 j = M.1 3 j from (wi_r (by omega)).trans (congrFun b1 j)] at hm2
      refine OPi_X (x_room_ok M hj v hv) hm2 (Rel_room hR (fun c c1 c2 c3 c4 c5 c6 => ((wi_c (by omega)).trans ((wi_c (by omega)).trans (wi_c (by omega))))) (fun k hk => ((wi_r (by omega)).trans ((wi_r (by omega)).trans (wi_r (by omega))))) ⟨?_, ?_, fun k hk => ?_, ?_⟩)
      · funext k
        by_cases e : k = j
        · subst e; exact wi_s.trans ((wi_r (by omega)).trans ((wi_r (by omega)).trans wi_s)).symm
        · exact ((wi_r (by omega)).trans ((wi_r (by omega)).trans (wi_r (by omega)))).trans ((congrFun b1 k).trans ((wi_r (by omega)).trans ((wi_r (by omega)).trans (wi_r (by omega)))).symm)
      · exact (((wi_c (by omega)).trans ((wi_c (by omega)).trans (wi_c (by omega)))).trans b2).trans ((wi_c (by omega)).trans ((wi_c (by omega)).trans (wi_c (by omega)))).symm
      · by_cases e : k = j
        · subst e; rw [((wi_r (by omega)).trans ((wi_r (by omega)).trans wi_s))]; exact hv
        · rw [show (wi (wi (wi M 3 j v) 96 0 0) 100 j v).1 3 k = M.1 3 k from (wi_r (by omega)).trans ((wi_r (by omega)).trans (wi_r (by omega)))]; exact b3 k hk
      · rw [show (wi (wi (wi M 3 j v) 96 0 0) 100 j v).1 4 = M.1 4 from ((wi_c (by omega)).trans ((wi_c (by omega)).trans (wi_c (by omega))))]; exact b4
theorem col_ix {c : Int32} (h : f_in c (-8) 8 = true) : ∃ j, j < 17 ∧ c + 8 = nI j := by
  have h1 := (in_iff _ _ _).mp h
  have e1 : (-8 : Int32).toInt = -8 := by decide
  have e2 : (8 : Int32).toInt = 8 := by decide
  rw [e1, e2] at h1
  have s := (t_add (a := c) (b := 8) (A := 8) (B := 8) (by simp only [na]; omega) (by decide) (by decide)).1
  rw [e2] at s
  refine ⟨(c.toInt + 8).toNat, by omega, Int32.toInt_inj.mp ?_⟩
  rw [s, nI_toInt (by omega)]
  omega
theorem op_bend {M : Mm} (hR : Rel M) (c v : Int32) : OPi mX11_bend mX12_bend 1 1 [.int c, .int v] M := by
  cases hb : (f_in c (-8) 8 && f_in v (-50) 50)
  · exact OPi_b hR (x_bend_bad M c v hb) (m_bend_bad M c v hb)
  · obtain ⟨hc, hv⟩ := and_ff.mp hb
    obtain ⟨j, hj, ej⟩ := col_ix hc
    obtain ⟨b1, b2, b3, b4⟩ := hR.1.2.1
    have hm2 := m_bend_ok (wi M 4 j v) c v hj ej hc hv
    rw [show (wi M 4 j v).1 101 j = M.1 4 j from (wi_r (by omega)).trans (congrFun b2 j)] at hm2
    refine OPi_X (x_bend_ok M c v hj ej hc hv) hm2 (Rel_room hR (fun c c1 c2 c3 c4 c5 c6 => ((wi_c (by omega)).trans ((wi_c (by omega)).trans (wi_c (by omega))))) (fun k hk => ((wi_r (by omega)).trans ((wi_r (by omega)).trans (wi_r (by omega))))) ⟨?_, ?_, ?_, fun k hk => ?_⟩)
    · exact (((wi_c (by omega)).trans ((wi_c (by omega)).trans (wi_c (by omega)))).trans b1).trans ((wi_c (by omega)).trans ((wi_c (by omega)).trans (wi_c (by omega)))).symm
    · funext k
      by_cases e : k = j
      · subst e; exact wi_s.trans ((wi_r (by omega)).trans ((wi_r (by omega)).trans wi_s)).symm
      · exact ((wi_r (by omega)).trans ((wi_r (by omega)).trans (wi_r (by omega)))).trans ((congrFun b2 k).trans ((wi_r (by omega)).trans ((wi_r (by omega)).trans (wi_r (by omega)))).symm)
    · rw [show (wi (wi (wi M 4 j v) 96 0 0) 101 j v).1 3 = M.1 3 from ((wi_c (by omega)).trans ((wi_c (by omega)).trans (wi_c (by omega))))]; exact b3
    · by_cases e : k = j
      · subst e; rw [((wi_r (by omega)).trans ((wi_r (by omega)).trans wi_s))]; exact hv
      · rw [show (wi (wi (wi M 4 j v) 96 0 0) 101 j v).1 4 k = M.1 4 k from (wi_r (by omega)).trans ((wi_r (by omega)).trans (wi_r (by omega)))]; exact b4 k hk
theorem told_hi : ∀ j, j < 17 → f_in (nI (7 + j)) 0 6 = false ∧ f_in (nI (7 + j)) 7 23 = true := by decide
theorem told_out {w : Int32} (h : f_in w 0 23 = false) : f_in w 0 6 = false ∧ f_in w 7 23 = false := by
  have e0 : (0 : Int32).toInt = 0 := by decide
  have e6 : (6 : Int32).toInt = 6 := by decide
  have e7 : (7 : Int32).toInt = 7 := by decide
  have e23 : (23 : Int32).toInt = 23 := by decide
  have h1 : ¬ (0 ≤ w.toInt ∧ w.toInt ≤ 23) := by
    intro q
    rw [(in_iff w 0 23).mpr (by rw [e0, e23]; exact q)] at h
    cases h
  refine ⟨?_, ?_⟩
  · cases q : f_in w 0 6
    · rfl
    · have := (in_iff _ _ _).mp q; rw [e0, e6] at this; omega
  · cases q : f_in w 7 23
    · rfl
    · have := (in_iff _ _ _).mp q; rw [e7, e23] at this; omega
theorem op_told {M : Mm} (hR : Rel M) (w : Int32) : OPi mX11_told mX12_told 1 1 [.int w] M := by
  obtain ⟨b1, b2, b3, b4⟩ := hR.1.2.1
  cases hb : f_in w 0 23
  · exact OPi_b hR (x_told_bad M w hb) (m_told_bad M w (told_out hb).1 (told_out hb).2)
  · obtain ⟨j, hj, rfl⟩ := i23 hb
    by_cases h7 : j < 7
    · have hm2 := m_told_0 M h7
      rw [congrFun b1 j] at hm2
      exact OPi_b hR (x_told_0 M h7) hm2
    · obtain ⟨k, rfl⟩ : ∃ k, j = 7 + k := ⟨j - 7, by omega⟩
      have hm2 := m_told_1 M (j := k) (by omega) (told_hi k (by omega)).1 (told_hi k (by omega)).2
      rw [congrFun b2 k] at hm2
      exact OPi_b hR (x_told_1 M (j := k) (by omega)) hm2
theorem op_thing {M : Mm} (hR : Rel M) (x y z : Int32) : OPi mX11_thing mX12_thing 3 3 [.int x, .int y, .int z] M := by
  cases hb : f_place x y z
  · exact OPi_b hR (x_thing_bad M x y z hb) (m_thing_bad M x y z hb)
  · obtain ⟨N, hN, hN24, h7, hT, hE, hMA⟩ := gT2 hR.1
    by_cases h24 : N = 24
    · exact OPi_b hR (x_thing_full M x y z hN hb h24) (m_thing_full M x y z h7 hb h24)
    · have hlt : N < 24 := by omega
      refine OPi_X (x_thing_ok M x y z hN hb hlt) (m_thing_ok _ x y z (N := N) ?_ hb hlt) (Rel_thing (i := N) hlt hR (fun c c1 c2 c3 c4 c5 c6 => ((wi_c (by omega)).trans ((wi_c (by omega)).trans ((wi_c (by omega)).trans ((wi_c (by omega)).trans ((wi_c (by omega)).trans ((wi_c (by omega)).trans ((wi_c (by omega)).trans ((wi_c (by omega)).trans (wi_c (by omega))))))))))) ((wi_r (by omega)).trans ((wi_r (by omega)).trans ((wi_r (by omega)).trans ((wi_r (by omega)).trans ((wi_r (by omega)).trans ((wi_r (by omega)).trans ((wi_r (by omega)).trans ((wi_r (by omega)).trans (wi_r (by omega)))))))))) ((wi_r (by omega)).trans ((wi_r (by omega)).trans ((wi_r (by omega)).trans ((wi_r (by omega)).trans ((wi_r (by omega)).trans ((wi_r (by omega)).trans ((wi_r (by omega)).trans ((wi_r (by omega)).trans (wi_r (by omega)))))))))) ((wi_r (by omega)).trans ((wi_r (by omega)).trans ((wi_r (by omega)).trans ((wi_r (by omega)).trans ((wi_r (by omega)).trans ((wi_r (by omega)).trans ((wi_r (by omega)).trans ((wi_r (by omega)).trans (wi_r (by omega)))))))))) ⟨N + 1, ((wi_r (by omega)).trans ((wi_r (by omega)).trans ((wi_r (by omega)).trans ((wi_r (by omega)).trans ((wi_r (by omega)).trans wi_s))))), wi_s, by omega, fun k hk => ?_⟩)
      · exact ((wi_r (by omega)).trans ((wi_r (by omega)).trans ((wi_r (by omega)).trans (wi_r (by omega))))).trans h7
      · by_cases e : k = N
        · subst e
          refine ⟨((wi_r (by omega)).trans ((wi_r (by omega)).trans ((wi_r (by omega)).trans ((wi_r (by omega)).trans ((wi_r (by omega)).trans ((wi_r (by omega)).trans ((wi_r (by omega)).trans ((wi_r (by omega)).trans wi_s)))))))).trans ((wi_r (by omega)).trans ((wi_r (by omega)).trans ((wi_r (by omega)).trans wi_s))).symm, ((wi_r (by omega)).trans ((wi_r (by omega)).trans ((wi_r (by omega)).trans ((wi_r (by omega)).trans ((wi_r (by omega)).trans ((wi_r (by omega)).trans ((wi_r (by omega)).trans wi_s))))))).trans ((wi_r (by omega)).trans ((wi_r (by omega)).trans wi_s)).symm, ((wi_r (by omega)).trans ((wi_r (by omega)).trans ((wi_r (by omega)).trans ((wi_r (by omega)).trans ((wi_r (by omega)).trans ((wi_r (by omega)).trans wi_s)))))).trans ((wi_r (by omega)).trans wi_s).symm, ?_⟩
          rw [((wi_r (by omega)).trans ((wi_r (by omega)).trans ((wi_r (by omega)).trans ((wi_r (by omega)).trans ((wi_r (by omega)).trans ((wi_r (by omega)).trans ((wi_r (by omega)).trans ((wi_r (by omega)).trans wi_s)))))))), ((wi_r (by omega)).trans ((wi_r (by omega)).trans ((wi_r (by omega)).trans ((wi_r (by omega)).trans ((wi_r (by omega)).trans ((wi_r (by omega)).trans ((wi_r (by omega)).trans wi_s))))))), ((wi_r (by omega)).trans ((wi_r (by omega)).trans ((wi_r (by omega)).trans ((wi_r (by omega)).trans ((wi_r (by omega)).trans ((wi_r (by omega)).trans wi_s))))))]
          exact hb
        · have hk2 : k < N := by omega
          obtain ⟨c1, c2, c3⟩ := hE k hk2
          refine ⟨(((wi_r (by omega)).trans ((wi_r (by omega)).trans ((wi_r (by omega)).trans ((wi_r (by omega)).trans ((wi_r (by omega)).trans ((wi_r (by omega)).trans ((wi_r (by omega)).trans ((wi_r (by omega)).trans (wi_r (by omega)))))))))).trans c1).trans ((wi_r (by omega)).trans ((wi_r (by omega)).trans ((wi_r (by omega)).trans ((wi_r (by omega)).trans ((wi_r (by omega)).trans ((wi_r (by omega)).trans ((wi_r (by omega)).trans ((wi_r (by omega)).trans (wi_r (by omega)))))))))).symm, (((wi_r (by omega)).trans ((wi_r (by omega)).trans ((wi_r (by omega)).trans ((wi_r (by omega)).trans ((wi_r (by omega)).trans ((wi_r (by omega)).trans ((wi_r (by omega)).trans ((wi_r (by omega)).trans (wi_r (by omega)))))))))).trans c2).trans ((wi_r (by omega)).trans ((wi_r (by omega)).trans ((wi_r (by omega)).trans ((wi_r (by omega)).trans ((wi_r (by omega)).trans ((wi_r (by omega)).trans ((wi_r (by omega)).trans ((wi_r (by omega)).trans (wi_r (by omega)))))))))).symm, (((wi_r (by omega)).trans ((wi_r (by omega)).trans ((wi_r (by omega)).trans ((wi_r (by omega)).trans ((wi_r (by omega)).trans ((wi_r (by omega)).trans ((wi_r (by omega)).trans ((wi_r (by omega)).trans (wi_r (by omega)))))))))).trans c3).trans ((wi_r (by omega)).trans ((wi_r (by omega)).trans ((wi_r (by omega)).trans ((wi_r (by omega)).trans ((wi_r (by omega)).trans ((wi_r (by omega)).trans ((wi_r (by omega)).trans ((wi_r (by omega)).trans (wi_r (by omega)))))))))).symm, ?_⟩
          have q : ∀ b, (wi (wi (wi (wi (wi (wi (wi (wi (wi M (38 + N) 0 x) (38 + N) 1 y) (38 + N) 2 z) 0 3 (nI (N + 1))) 96 0 0) 102 N x) 103 N y) 104 N z) 96 7 (nI (N + 1))).1 (38 + k) b = M.1 (38 + k) b := fun b => ((wi_r (by omega)).trans ((wi_r (by omega)).trans ((wi_r (by omega)).trans ((wi_r (by omega)).trans ((wi_r (by omega)).trans ((wi_r (by omega)).trans ((wi_r (by omega)).trans ((wi_r (by omega)).trans (wi_r (by omega))))))))))
          rw [q 0, q 1, q 2]
          exact hT k hk2
theorem op_move {M : Mm} (hR : Rel M) (t x y z : Int32) : OPi mX11_move mX12_move 3 3 [.int t, .int x, .int y, .int z] M := by
  obtain ⟨N, hN, hN24, h7, hT, hE, hMA⟩ := gT2 hR.1
  cases hb : (f_in t 0 (nI N - 1) && f_place x y z)
  · exact OPi_b hR (x_move_bad M t x y z (by rw [hN]; exact hb)) (m_move_bad M t x y z (by rw [h7]; exact hb))
  · obtain ⟨ht, hp⟩ := and_ff.mp hb
    obtain ⟨i, hi, rfl⟩ := inN_nat hN24 ht
    refine OPi_X (x_move_ok M x y z hN hi hN24 hp) (m_move_ok _ x y z (N := N) ?_ hi hN24 hp) (Rel_thing (i := i) (by omega) hR (fun c c1 c2 c3 c4 c5 c6 => ((wi_c (by omega)).trans ((wi_c (by omega)).trans ((wi_c (by omega)).trans ((wi_c (by omega)).trans ((wi_c (by omega)).trans ((wi_c (by omega)).trans (wi_c (by omega))))))))) ((wi_r (by omega)).trans ((wi_r (by omega)).trans ((wi_r (by omega)).trans ((wi_r (by omega)).trans ((wi_r (by omega)).trans ((wi_r (by omega)).trans (wi_r (by omega)))))))) ((wi_r (by omega)).trans ((wi_r (by omega)).trans ((wi_r (by omega)).trans ((wi_r (by omega)).trans ((wi_r (by omega)).trans ((wi_r (by omega)).trans (wi_r (by omega)))))))) ((wi_r (by omega)).trans ((wi_r (by omega)).trans ((wi_r (by omega)).trans ((wi_r (by omega)).trans ((wi_r (by omega)).trans ((wi_r (by omega)).trans (wi_r (by omega)))))))) ⟨N, ((wi_r (by omega)).trans ((wi_r (by omega)).trans ((wi_r (by omega)).trans ((wi_r (by omega)).trans ((wi_r (by omega)).trans ((wi_r (by omega)).trans (wi_r (by omega)))))))).trans hN, ((wi_r (by omega)).trans ((wi_r (by omega)).trans ((wi_r (by omega)).trans ((wi_r (by omega)).trans ((wi_r (by omega)).trans ((wi_r (by omega)).trans (wi_r (by omega)))))))).trans h7, hN24, fun k hk => ?_⟩)
    · exact ((wi_r (by omega)).trans ((wi_r (by omega)).trans (wi_r (by omega)))).trans h7
    · by_cases e : k = i
      · subst e
        refine ⟨((wi_r (by omega)).trans ((wi_r (by omega)).trans ((wi_r (by omega)).trans ((wi_r (by omega)).trans ((wi_r (by omega)).trans ((wi_r (by omega)).trans wi_s)))))).trans ((wi_r (by omega)).trans ((wi_r (by omega)).trans wi_s)).symm, ((wi_r (by omega)).trans ((wi_r (by omega)).trans ((wi_r (by omega)).trans ((wi_r (by omega)).trans ((wi_r (by omega)).trans wi_s))))).trans ((wi_r (by omega)).trans wi_s).symm, ((wi_r (by omega)).trans ((wi_r (by omega)).trans ((wi_r (by omega)).trans ((wi_r (by omega)).trans wi_s)))).trans wi_s.symm, ?_⟩
        rw [((wi_r (by omega)).trans ((wi_r (by omega)).trans ((wi_r (by omega)).trans ((wi_r (by omega)).trans ((wi_r (by omega)).trans ((wi_r (by omega)).trans wi_s)))))), ((wi_r (by omega)).trans ((wi_r (by omega)).trans ((wi_r (by omega)).trans ((wi_r (by omega)).trans ((wi_r (by omega)).trans wi_s))))), ((wi_r (by omega)).trans ((wi_r (by omega)).trans ((wi_r (by omega)).trans ((wi_r (by omega)).trans wi_s))))]
        exact hp
      · obtain ⟨c1, c2, c3⟩ := hE k hk
        refine ⟨(((wi_r (by omega)).trans ((wi_r (by omega)).trans ((wi_r (by omega)).trans ((wi_r (by omega)).trans ((wi_r (by omega)).trans ((wi_r (by omega)).trans (wi_r (by omega)))))))).trans c1).trans ((wi_r (by omega)).trans ((wi_r (by omega)).trans ((wi_r (by omega)).trans ((wi_r (by omega)).trans ((wi_r (by omega)).trans ((wi_r (by omega)).trans (wi_r (by omega)))))))).symm, (((wi_r (by omega)).trans ((wi_r (by omega)).trans ((wi_r (by omega)).trans ((wi_r (by omega)).trans ((wi_r (by omega)).trans ((wi_r (by omega)).trans (wi_r (by omega)))))))).trans c2).trans ((wi_r (by omega)).trans ((wi_r (by omega)).trans ((wi_r (by omega)).trans ((wi_r (by omega)).trans ((wi_r (by omega)).trans ((wi_r (by omega)).trans (wi_r (by omega)))))))).symm, (((wi_r (by omega)).trans ((wi_r (by omega)).trans ((wi_r (by omega)).trans ((wi_r (by omega)).trans ((wi_r (by omega)).trans ((wi_r (by omega)).trans (wi_r (by omega)))))))).trans c3).trans ((wi_r (by omega)).trans ((wi_r (by omega)).trans ((wi_r (by omega)).trans ((wi_r (by omega)).trans ((wi_r (by omega)).trans ((wi_r (by omega)).trans (wi_r (by omega)))))))).symm, ?_⟩
        have q : ∀ b, (wi (wi (wi (wi (wi (wi (wi M (38 + i) 0 x) (38 + i) 1 y) (38 + i) 2 z) 96 0 0) 102 i x) 103 i y) 104 i z).1 (38 + k) b = M.1 (38 + k) b := fun b => ((wi_r (by omega)).trans ((wi_r (by omega)).trans ((wi_r (by omega)).trans ((wi_r (by omega)).trans ((wi_r (by omega)).trans ((wi_r (by omega)).trans (wi_r (by omega))))))))
        rw [q 0, q 1, q 2]
        exact hT k hk
theorem op_picture {M : Mm} (hR : Rel M) (t w : Int32) : OPi mX11_picture mX12_picture 3 5 [.int t, .int w] M := by
  obtain ⟨N, hN, hN24, h7, hT, hE, hMA⟩ := gT2 hR.1
  cases hb : (f_in t 0 (nI N - 1) && f_in w 0 8)
  · exact OPi_b hR (x_picture_bad M t w (by rw [hN]; exact hb)) (m_picture_bad M t w (by rw [h7]; exact hb))
  · obtain ⟨ht, hw⟩ := and_ff.mp hb
    obtain ⟨i, hi, rfl⟩ := inN_nat hN24 ht
    rcases w08 hw with rfl | rfl | rfl | rfl | rfl | rfl | rfl | rfl | rfl
    · exact OPi_q hR (x_picture_0 M hN hi hN24) (fun M1 e => by subst e; exact Qs_pic) (fun M1 q => m_picture_0 M1 (Q0_MA hMA q.1).1 hi hN24 ((Q0_MA hMA q.1).2.2 i hi)) (fun M1 M2 e => by subst e; exact Qs_t0 (Qs_rf _))
    · exact OPi_q hR (x_picture_1 M hN hi hN24) (fun M1 e => by subst e; exact Qs_pic) (fun M1 q => m_picture_1 M1 (Q0_MA hMA q.1).1 hi hN24 ((Q0_MA hMA q.1).2.2 i hi)) (fun M1 M2 e => by subst e; exact Qs_t0 (Qs_rf _))
    · exact OPi_q hR (x_picture_2 M hN hi hN24) (fun M1 e => by subst e; exact Qs_pic) (fun M1 q => m_picture_2 M1 (Q0_MA hMA q.1).1 hi hN24 ((Q0_MA hMA q.1).2.2 i hi)) (fun M1 M2 e => by subst e; exact Qs_t0 (Qs_rf _))
    · exact OPi_q hR (x_picture_3 M hN hi hN24) (fun M1 e => by subst e; exact Qs_pic) (fun M1 q => m_picture_3 M1 (Q0_MA hMA q.1).1 hi hN24 ((Q0_MA hMA q.1).2.2 i hi)) (fun M1 M2 e => by subst e; exact Qs_t0 (Qs_rf _))
    · exact OPi_q hR (x_picture_4 M hN hi hN24) (fun M1 e => by subst e; exact Qs_pic) (fun M1 q => m_picture_4 M1 (Q0_MA hMA q.1).1 hi hN24 ((Q0_MA hMA q.1).2.2 i hi)) (fun M1 M2 e => by subst e; exact Qs_t0 (Qs_rf _))
    · exact OPi_q hR (x_picture_5 M hN hi hN24) (fun M1 e => by subst e; exact Qs_pic) (fun M1 q => m_picture_5 M1 (Q0_MA hMA q.1).1 hi hN24 ((Q0_MA hMA q.1).2.2 i hi)) (fun M1 M2 e => by subst e; exact Qs_t0 (Qs_rf _))
    · exact OPi_q hR (x_picture_6 M hN hi hN24) (fun M1 e => by subst e; exact Qs_pic) (fun M1 q => m_picture_6 M1 (Q0_MA hMA q.1).1 hi hN24 ((Q0_MA hMA q.1).2.2 i hi)) (fun M1 M2 e => by subst e; exact Qs_t0 (Qs_rf _))
    · exact OPi_q hR (x_picture_7 M hN hi hN24) (fun M1 e => by subst e; exact Qs_pic) (fun M1 q => m_picture_7 M1 (Q0_MA hMA q.1).1 hi hN24 ((Q0_MA hMA q.1).2.2 i hi)) (fun M1 M2 e => by subst e; exact Qs_t0 (Qs_rf _))
    · exact OPi_q hR (x_picture_8 M hN hi hN24) (fun M1 e => by subst e; exact Qs_pic) (fun M1 q => m_picture_8 M1 (Q0_MA hMA q.1).1 hi hN24 ((Q0_MA hMA q.1).2.2 i hi)) (fun M1 M2 e => by subst e; exact Qs_t0 (Qs_rf _))
theorem fB_pos {ρ β : Nat → Int32} {x y z : Int32} (h6 : RR ρ) (h7 : RB β) (h8 : RT x y z) : ∀ k, 1 ≤ k → k ≤ 1000 → 0 ≤ f_B ρ β x z k := by
  intro k h1 h2
  obtain ⟨x1, x2, x3, x4⟩ := RT_x h8
  have f := far_n h7 (x := x) (z := z) (dp := nI k) (by rw [nI_toInt (by omega)]; omega) (by rw [nI_toInt (by omega)]; omega)
  have b := blur_n h6 f.1 f.2 x3 x4
  rw [Int32.le_iff_toInt_le, show (0 : Int32).toInt = 0 by decide]
  exact b.1
theorem op_focused {M : Mm} (hR : Rel M) (t w : Int32) : OPi mX11_focused mX12_focused 5 5 [.int t, .int w] M := by
  obtain ⟨N, hN, hN24, h7, hT, hE, hMA⟩ := gT2 hR.1
  cases hb : (f_in t 0 (nI N - 1) && f_in w 0 1)
  · exact OPi_b hR (x_focused_bad M t w (by rw [hN]; exact hb)) (m_focused_bad M t w (by rw [h7]; exact hb))
  · obtain ⟨ht, hw⟩ := and_ff.mp hb
    obtain ⟨i, hi, rfl⟩ := inN_nat hN24 ht
    have hB := fB_pos (y := M.1 (38 + i) 1) hR.1.2.1.2.2.1 hR.1.2.1.2.2.2 (hT i hi)
    rcases w01 hw with rfl | rfl
    · exact OPi_q hR (x_focused_0 M hN hi hN24 hB) (fun M1 e => by subst e; exact Qs_rf _) (fun M1 q => m_focused_0 M1 (Q0_MA hMA q.1).1 hi hN24 ((Q0_MA hMA q.1).2.2 i hi)) (fun M1 M2 e => by subst e; exact Qs_t0 (Qs_rf _))
    · exact OPi_q hR (x_focused_1 M hN hi hN24 hB) (fun M1 e => by subst e; exact Qs_rf _) (fun M1 q => m_focused_1 M1 (Q0_MA hMA q.1).1 hi hN24 ((Q0_MA hMA q.1).2.2 i hi)) (fun M1 M2 e => by subst e; exact Qs_t0 (Qs_rf _))
theorem op_bent {M : Mm} (hR : Rel M) : OPi mX11_bent mX12_bent 3 2 [] M := by
  obtain ⟨N, hN, hN24, h7, hT, hE, hMA⟩ := gT2 hR.1
  obtain ⟨b1, b2, b3, b4⟩ := hR.1.2.1
  refine ⟨_, _, x_bent M hN hN24, fun M1 h1 => ?_⟩
  have k9 : ∀ c, c ≠ 4 → c ≠ 5 → M1.1 c = M.1 c := h1.2
  have hA1 := hMA M1 (by rw [k9 96 (by omega) (by omega)]) (fun c c1 c2 => k9 c (by omega) (by omega))
  refine AQ_wk (m_bent M1 hA1 b3 hT ((k9 100 (by omega) (by omega)).trans b1) b4 ((k9 101 (by omega) (by omega)).trans b2)) (fun M2 h2 => ?_)
  have g9 : ∀ c, c ≠ 101 → M2.1 c = (wi M1 96 0 0).1 c := h2.2
  have e4 : M2.1 4 = M1.1 4 := (g9 4 (by omega)).trans (wi_c (by omega))
  refine Rel_room hR (fun c c1 c2 c3 c4 c5 c6 => (g9 c c6).trans ((wi_c c4).trans (k9 c c2 c3))) (fun j hj => (congrFun (g9 96 (by omega)) j).trans ((wi_r (by omega)).trans (congrFun (k9 96 (by omega) (by omega)) j))) ⟨?_, ?_, ?_, ?_⟩
  · exact (((g9 100 (by omega)).trans ((wi_c (by omega)).trans (k9 100 (by omega) (by omega)))).trans b1).trans ((g9 3 (by omega)).trans ((wi_c (by omega)).trans (k9 3 (by omega) (by omega)))).symm
  · funext v
    rw [e4, h1.1 v, h2.1 v]
    by_cases q : v < 17
    · rw [if_pos q, if_pos q]
    · rw [if_neg q, if_neg q]
      exact (congrFun ((wi_c (by omega)).trans (k9 101 (by omega) (by omega))) v).trans (congrFun b2 v)
  · rw [show M2.1 3 = M.1 3 from (g9 3 (by omega)).trans ((wi_c (by omega)).trans (k9 3 (by omega) (by omega)))]; exact b3
  · intro v hv
    rw [e4, h1.1 v, if_pos hv]
    exact bd_in (bb_in _ 50 (by omega))
theorem op_kind {M : Mm} (hR : Rel M) (t : Int32) : OPi mX11_kind mX12_kind 4 6 [.int t] M := by
  obtain ⟨N, hN, hN24, h7, hT, hE, hMA⟩ := gT2 hR.1
  cases hb : f_in t 0 (nI N - 1)
  · exact OPi_b hR (x_kind_bad M t (by rw [hN]; exact hb)) (m_kind_bad M t (by rw [h7]; exact hb))
  · obtain ⟨i, hi, rfl⟩ := inN_nat hN24 hb
    exact OPi_q hR (x_kind_ok M hN hi hN24) (fun M1 e => by subst e; exact Qs_pic) (fun M1 q => m_kind_ok M1 (Q0_MA hMA q.1).1 hi hN24 ((Q0_MA hMA q.1).2.2 i hi)) (fun M1 M2 e => by subst e; exact Qs_t0 (Qs_rf _))
theorem op_as {M : Mm} (hR : Rel M) (t w : Int32) : OPi mX11_as mX12_as 4 6 [.int t, .int w] M := by
  obtain ⟨N, hN, hN24, h7, hT, hE, hMA⟩ := gT2 hR.1
  cases hb : (f_in t 0 (nI N - 1) && f_in w 0 3)
  · exact OPi_b hR (x_as_bad M t w (by rw [hN]; exact hb)) (m_as_bad M t w (by rw [h7]; exact hb))
  · obtain ⟨ht, hw⟩ := and_ff.mp hb
    obtain ⟨i, hi, rfl⟩ := inN_nat hN24 ht
    have q1 : Q0 M (pic M (M.1 3) (M.1 4) (M.1 (38 + i) 0) (M.1 (38 + i) 1) (M.1 (38 + i) 2)) := Qs_pic.1
    cases ho : f_isOf (KK M i) w
    · have g : Q0 M (wi (pic M (M.1 3) (M.1 4) (M.1 (38 + i) 0) (M.1 (38 + i) 1) (M.1 (38 + i) 2)) 0 12 3) := Q0_w0 q1
      exact OPi_X (x_as_no M hN hi hN24 w hw ho) (m_as_no _ (Q0_MA hMA g).1 hi hN24 ((Q0_MA hMA g).2.2 i hi) w hw ho) (Rel_st hR (Q0_w96 (Q0_w96 (Q0_w96 g (by omega)) (by omega)) (by omega)) (((wi_r (by omega)).trans ((wi_r (by omega)).trans ((wi_r (by omega)).trans wi_s))).trans wi_s.symm))
    · have g : Q0 M (wi (pic M (M.1 3) (M.1 4) (M.1 (38 + i) 0) (M.1 (38 + i) 1) (M.1 (38 + i) 2)) 0 12 0) := Q0_w0 q1
      exact OPi_X (x_as_yes M hN hi hN24 w hw ho) (m_as_yes _ (Q0_MA hMA g).1 hi hN24 ((Q0_MA hMA g).2.2 i hi) w hw ho) (Rel_st hR (Q0_w96 (Q0_w96 g (by omega)) (by omega)) (((wi_r (by omega)).trans ((wi_r (by omega)).trans wi_s)).trans wi_s.symm))
theorem op_status {M : Mm} (hR : Rel M) : OPi mX11_status mX12_status 0 0 [] M := by
  have hm2 := m_status M
  rw [← hR.2] at hm2
  exact OPi_b hR (x_status M) hm2
theorem op_spot {M : Mm} (hR : Rel M) (day hour h w : Int32) : OPi mX11_spot mX12_spot 2 2 [.int day, .int hour, .int h, .int w] M := by
  cases hb : (f_in day 0 364 && f_in hour (-6) 6 && f_in h 1 1000 && f_in w 0 1)
  · exact OPi_b hR (x_spot_bad M day hour h w hb) (m_spot_bad M day hour h w hb)
  · obtain ⟨hb, hw⟩ := and_ff.mp hb
    obtain ⟨hb, h3⟩ := and_ff.mp hb
    obtain ⟨h1, h2⟩ := and_ff.mp hb
    obtain ⟨d, hd, rfl⟩ := in_nat (n := 364) (by decide) h1
    rcases w01 hw with rfl | rfl
    · exact OPi_b hR (x_spot_0 M (nI d) hour h h1 h2 h3) (m_spot_0 M hd hour h h2 h3)
    · exact OPi_b hR (x_spot_1 M (nI d) hour h h1 h2 h3) (m_spot_1 M hd hour h h2 h3)
theorem op_days {M : Mm} (hR : Rel M) (x y h i : Int32) : OPi mX11_days mX12_days 2 2 [.int x, .int y, .int h, .int i] M := by
  cases hb : f_in h 1 1000
  · exact OPi_b hR (x_days_bad M x y h i hb) (m_days_bad M x y h i hb)
  · exact OPi_b hR (x_days_ok M x y h i hb rfl) (m_days_ok M x y h i hb rfl)
