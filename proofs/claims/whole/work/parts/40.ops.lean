/-! THE OPERATIONS, 3: traces, two rooms -/
def Tq (h g : Nat → Nat → Int32) : Prop := ∀ a, a < 8 → ∀ t, t < 24 → h a t = g a t
theorem cm_c {h1 h2 g1 g2 : Nat → Int32} : ∀ n, (∀ i, i < n → h1 i = g1 i) → (∀ i, i < n → h2 i = g2 i) → cm h1 h2 n = cm g1 g2 n
  | 0, _, _ => rfl
  | n + 1, a, b => by
    simp only [cm]
    rw [a n (by omega), b n (by omega), cm_c n (fun i hi => a i (by omega)) (fun i hi => b i (by omega))]
theorem jr_c {h1 h2 g1 g2 d e f0 : Nat → Int32} : ∀ n, (∀ i, i < n → h1 i = g1 i) → (∀ i, i < n → h2 i = g2 i) → (∀ i, i < n → d i = e i) → jr h1 h2 d f0 n = jr g1 g2 e f0 n
  | 0, _, _, _ => rfl
  | n + 1, a, b, c => by
    simp only [jr]
    rw [a n (by omega), b n (by omega), c n (by omega), cm_c n (fun i hi => a i (by omega)) (fun i hi => b i (by omega)), jr_c n (fun i hi => a i (by omega)) (fun i hi => b i (by omega)) (fun i hi => c i (by omega))]
section TQ
variable {h g x x2 y y2 : Nat → Nat → Int32} {a b n : Nat}
theorem qcm_c (H : Tq h g) (ha : a < 8) (hb : b < 8) : q_cm h a b = q_cm g a b := cm_c 24 (H a ha) (H b hb)
theorem qr_c (H : Tq h g) (HX : Tq x x2) (ha : a < 8) (hb : b < 8) : q_r h x a b = q_r g x2 a b := jr_c 24 (H a ha) (H b hb) (fun i hi => by rw [HX a ha i hi, HX b hb i hi])
theorem qsx_c (H : Tq h g) (HX : Tq x x2) (ha : a < 8) (hb : b < 8) : q_sx h x a b = q_sx g x2 a b := by unfold q_sx; rw [qcm_c H ha hb, qr_c H HX ha hb]
theorem qms_c (H : Tq h g) (HX : Tq x x2) (HY : Tq y y2) (ha : a < 8) (hb : b < 8) : q_ms h x y a b = q_ms g x2 y2 a b := by unfold q_ms; rw [qcm_c H ha hb, qr_c H HX ha hb, qr_c H HY ha hb]
theorem rgx_c (H : Tq h g) (HX : Tq x x2) (h2 : 2 ≤ n) (h8 : n ≤ 8) : ∀ k, k ≤ n → rg_x h x n k = rg_x g x2 n k
  | 0, _ => rfl
  | k + 1, hk => by
    simp only [rg_x]
    rw [rgx_c H HX h2 h8 k (by omega), qsx_c H HX (by omega) (nx_lt h2 h8 (by omega))]
theorem rgm_c (H : Tq h g) (HX : Tq x x2) (HY : Tq y y2) (h2 : 2 ≤ n) (h8 : n ≤ 8) : ∀ k, k ≤ n → rg_m h x y n k = rg_m g x2 y2 n k
  | 0, _ => rfl
  | k + 1, hk => by
    simp only [rg_m]
    rw [rgm_c H HX HY h2 h8 k (by omega), qms_c H HX HY (by omega) (nx_lt h2 h8 (by omega))]
theorem rgok_c (H : Tq h g) (h2 : 2 ≤ n) (h8 : n ≤ 8) : ∀ k, k ≤ n → rg_ok h n k = rg_ok g n k
  | 0, _ => rfl
  | k + 1, hk => by
    simp only [rg_ok]
    rw [rgok_c H h2 h8 k (by omega), qcm_c H (by omega) (nx_lt h2 h8 (by omega))]
theorem asc_c (H : Tq h g) {q : Nat} (hq : q < 24) (h8 : n ≤ 8) : as_c h q n = as_c g q n := cntB_c (fun k hk => by rw [H k (by omega) q hq])
theorem ass_c (H : Tq h g) (HX : Tq x x2) {q : Nat} (hq : q < 24) (h2 : 2 ≤ n) (h8 : n ≤ 8) : ∀ k, k ≤ n → as_s h x n q k = as_s g x2 n q k
  | 0, _ => rfl
  | k + 1, hk => by
    simp only [as_s]
    rw [ass_c H HX hq h2 h8 k (by omega), H k (by omega) q hq, HX k (by omega) q hq, rgx_c H HX h2 h8 k (by omega), rgx_c H HX h2 h8 n (Nat.le_refl _)]
end TQ
theorem gH {M : Mm} (hR : Rel0 M) {M1 : Mm} (q : Q0 M M1) : Tq (mH M1) (cH M) ∧ Tq (mX M1) (cX M) ∧ Tq (mY M1) (cY M) := by
  have r4 := hR.2.2.2.1
  refine ⟨fun a ha t ht => ?_, fun a ha t ht => ?_, fun a ha t ht => ?_⟩
  · show M1.1 105 _ = _; rw [q.1 105 (by unfold cc; omega)]; exact (r4 a ha t ht).1
  · show M1.1 106 _ = _; rw [q.1 106 (by unfold cc; omega)]; exact (r4 a ha t ht).2.1
  · show M1.1 107 _ = _; rw [q.1 107 (by unfold cc; omega)]; exact (r4 a ha t ht).2.2
theorem in28_nat {n : Int32} (h : f_in n 2 8 = true) : ∃ k, 2 ≤ k ∧ k ≤ 8 ∧ n = nI k := by
  have h1 := (in_iff _ _ _).mp h
  rw [show (2 : Int32).toInt = 2 by decide, show (8 : Int32).toInt = 8 by decide] at h1
  refine ⟨n.toInt.toNat, by omega, by omega, Int32.toInt_inj.mp ?_⟩
  rw [nI_toInt (by omega)]
  omega
theorem Qs2_JF2 {M M1 : Mm} (h : JF2 (wi M 96 0 0) M1) : Qs M M1 := Qs_tr (Qs_t0 (Qs_rf M)) (Qs_JF2 h)
theorem Qs2_GF {M M1 : Mm} (h : GF (wi M 96 0 0) M1) : Qs M M1 := Qs_tr (Qs_t0 (Qs_rf M)) (Qs_GF h)
theorem Qs2_eq {M M1 : Mm} (h : M1.1 = (wi M 96 0 0).1) : Qs M M1 := Qs_tr (Qs_t0 (Qs_rf M)) (Qs_eq h)
theorem op_joined {M : Mm} (hR : Rel M) (a b w : Int32) : OPi mX11_joined mX12_joined 3 3 [.int a, .int b, .int w] M := by
  cases hb0 : (f_in a 0 7 && f_in b 0 7 && f_in w 0 3)
  · exact OPi_b hR (x_joined_bad M a b w hb0) (m_joined_bad M a b w hb0)
  · obtain ⟨hb0, hw⟩ := and_ff.mp hb0
    obtain ⟨h1, h2⟩ := and_ff.mp hb0
    obtain ⟨a, ha, rfl⟩ := i7 h1
    obtain ⟨b, hb, rfl⟩ := i7 h2
    rcases w03 hw with rfl | rfl | rfl | rfl
    · refine OPi_q hR (x_joined_0 M ha hb) (fun M1 e => Qs_JF e) (P2 := fun M1 => JF2 (wi M1 96 0 0)) (fun M1 q => ?_) (fun M1 M2 e => Qs2_JF2 e)
      obtain ⟨g1, g2, g3⟩ := gH hR.1 q.1
      have e := m_joined_0 M1 ha hb
      rw [qcm_c g1 ha hb] at e
      exact e
    · refine OPi_q hR (x_joined_1 M ha hb) (fun M1 e => Qs_JF e) (P2 := fun M1 => JF2 (wi M1 96 0 0)) (fun M1 q => ?_) (fun M1 M2 e => Qs2_JF2 e)
      obtain ⟨g1, g2, g3⟩ := gH hR.1 q.1
      have e := m_joined_1 M1 ha hb
      rw [qcm_c g1 ha hb, qsx_c g1 g2 ha hb] at e
      exact e
    · refine OPi_q hR (x_joined_2 M ha hb) (fun M1 e => Qs_JF e) (P2 := fun M1 => JF2 (wi M1 96 0 0)) (fun M1 q => ?_) (fun M1 M2 e => Qs2_JF2 e)
      obtain ⟨g1, g2, g3⟩ := gH hR.1 q.1
      have e := m_joined_2 M1 ha hb
      rw [qcm_c g1 ha hb, qsx_c g1 g3 ha hb] at e
      exact e
    · refine OPi_q hR (x_joined_3 M ha hb) (fun M1 e => Qs_JF e) (P2 := fun M1 => JF2 (wi M1 96 0 0)) (fun M1 q => ?_) (fun M1 M2 e => Qs2_JF2 e)
      obtain ⟨g1, g2, g3⟩ := gH hR.1 q.1
      have e := m_joined_3 M1 ha hb
      rw [qcm_c g1 ha hb, qms_c g1 g2 g3 ha hb] at e
      exact e
theorem op_round {M : Mm} (hR : Rel M) (n w : Int32) : OPi mX11_round mX12_round 4 4 [.int n, .int w] M := by
  cases hb0 : (f_in n 2 8 && f_in w 0 2)
  · exact OPi_b hR (x_round_bad M n w hb0) (m_round_bad M n w hb0)
  · obtain ⟨h1, hw⟩ := and_ff.mp hb0
    obtain ⟨n, h2, h8, rfl⟩ := in28_nat h1
    rcases w02 hw with rfl | rfl | rfl
    · refine OPi_q hR (x_round_0 M h2 h8 hR.1.2.2.2.2.2.2.1 hR.1.2.2.2.2.2.2.2) (fun M1 e => Qs_RF e) (P2 := fun M1 => GF (wi M1 96 0 0)) (fun M1 q => ?_) (fun M1 M2 e => Qs2_GF e)
      obtain ⟨g1, g2, g3⟩ := gH hR.1 q.1
      have e := m_round_0 M1 h2 h8
      rw [rgok_c g1 h2 h8 n (Nat.le_refl _), rgx_c g1 g2 h2 h8 n (Nat.le_refl _)] at e
      exact e
    · refine OPi_q hR (x_round_1 M h2 h8 hR.1.2.2.2.2.2.2.1 hR.1.2.2.2.2.2.2.2) (fun M1 e => Qs_RF e) (P2 := fun M1 => GF (wi M1 96 0 0)) (fun M1 q => ?_) (fun M1 M2 e => Qs2_GF e)
      obtain ⟨g1, g2, g3⟩ := gH hR.1 q.1
      have e := m_round_1 M1 h2 h8
      rw [rgok_c g1 h2 h8 n (Nat.le_refl _), rgx_c g1 g3 h2 h8 n (Nat.le_refl _)] at e
      exact e
    · refine OPi_q hR (x_round_2 M h2 h8 hR.1.2.2.2.2.2.2.1 hR.1.2.2.2.2.2.2.2) (fun M1 e => Qs_RF e) (P2 := fun M1 => GF (wi M1 96 0 0)) (fun M1 q => ?_) (fun M1 M2 e => Qs2_GF e)
      obtain ⟨g1, g2, g3⟩ := gH hR.1 q.1
      have e := m_round_2 M1 h2 h8
      rw [rgok_c g1 h2 h8 n (Nat.le_refl _), rgm_c g1 g2 g3 h2 h8 n (Nat.le_refl _)] at e
      exact e
theorem op_around {M : Mm} (hR : Rel M) (n q w : Int32) : OPi mX11_around mX12_around 4 4 [.int n, .int q, .int w] M := by
  cases hb0 : (f_in n 2 8 && f_in q 0 23 && f_in w 0 1)
  · exact OPi_b hR (x_around_bad M n q w hb0) (m_around_bad M n q w hb0)
  · obtain ⟨hb0, hw⟩ := and_ff.mp hb0
    obtain ⟨h1, h3⟩ := and_ff.mp hb0
    obtain ⟨n, h2, h8, rfl⟩ := in28_nat h1
    obtain ⟨q, hq, rfl⟩ := i23 h3
    rcases w01 hw with rfl | rfl
    · refine OPi_q hR (x_around_0 M h2 h8 hR.1.2.2.2.2.2.2.1 hR.1.2.2.2.2.2.2.2 hq) (fun M1 e => Qs_RF e) (P2 := fun M1 => GF (wi M1 96 0 0)) (fun M1 z => ?_) (fun M1 M2 e => Qs2_GF e)
      obtain ⟨g1, g2, g3⟩ := gH hR.1 z.1
      have e := m_around_0 M1 h2 h8 hq
      rw [rgok_c g1 h2 h8 n (Nat.le_refl _), asc_c g1 hq h8, ass_c g1 g2 hq h2 h8 n (Nat.le_refl _)] at e
      exact e
    · refine OPi_q hR (x_around_1 M h2 h8 hR.1.2.2.2.2.2.2.1 hR.1.2.2.2.2.2.2.2 hq) (fun M1 e => Qs_RF e) (P2 := fun M1 => GF (wi M1 96 0 0)) (fun M1 z => ?_) (fun M1 M2 e => Qs2_GF e)
      obtain ⟨g1, g2, g3⟩ := gH hR.1 z.1
      have e := m_around_1 M1 h2 h8 hq
      rw [rgok_c g1 h2 h8 n (Nat.le_refl _), asc_c g1 hq h8, ass_c g1 g3 hq h2 h8 n (Nat.le_refl _)] at e
      exact e
theorem Rel_trace {M M2 : Mm} {a : Nat} (ha : a < 8) (hR : Rel M) (h : ∀ c, c ≠ 7 → c ≠ 63 + 4 * a → c ≠ 64 + 4 * a → c ≠ 65 + 4 * a → c ≠ 96 → c ≠ 105 → c ≠ 106 → c ≠ 107 → M2.1 c = M.1 c) (h9 : ∀ j, j ≠ 0 → M2.1 96 j = M.1 96 j) (ho : ∀ q, (q < 24 * a ∨ 24 * a + 24 ≤ q) → M2.1 105 q = M.1 105 q ∧ M2.1 106 q = M.1 106 q ∧ M2.1 107 q = M.1 107 q)
    (ht : ∀ t, t < 24 → M2.1 105 (24 * a + t) = M2.1 (63 + 4 * a) t ∧ M2.1 106 (24 * a + t) = M2.1 (64 + 4 * a) t ∧ M2.1 107 (24 * a + t) = M2.1 (65 + 4 * a) t) : Rel M2 := by
  obtain ⟨⟨r1, r2, r3, r4, r5, r6, r8⟩, st⟩ := hR
  have k := fun c (x1 : c ≠ 7) (x2 : c < 62 ∨ 93 < c) (x3 : c ≠ 96) (x4 : c < 105 ∨ 107 < c) => h c x1 (by omega) (by omega) (by omega) x3 (by omega) (by omega) (by omega)
  refine ⟨⟨R1_f (by rw [k 0 (by omega) (by omega) (by omega) (by omega)]) (h9 7 (by omega)) (fun c hc => k c (by omega) (by omega) (by omega) (by omega)) r1, R2_f (k 3 (by omega) (by omega) (by omega) (by omega)) (k 4 (by omega) (by omega) (by omega) (by omega)) (k 100 (by omega) (by omega) (by omega) (by omega)) (k 101 (by omega) (by omega) (by omega) (by omega)) r2, R3_f (fun c hc => k c (by omega) (by omega) (by omega) (by omega)) r3, fun b hb t htt => ?_,
    R5_f (k 94 (by omega) (by omega) (by omega) (by omega)) (k 95 (by omega) (by omega) (by omega) (by omega)) (k 111 (by omega) (by omega) (by omega) (by omega)) r5, R6_f (by rw [k 20 (by omega) (by omega) (by omega) (by omega)]) (h9 28 (by omega)) (k 21 (by omega) (by omega) (by omega) (by omega)) (k 112 (by omega) (by omega) (by omega) (by omega)) r6,
    by rw [k 15 (by omega) (by omega) (by omega) (by omega)]; exact r8.1, by rw [k 16 (by omega) (by omega) (by omega) (by omega)]; exact r8.2⟩, by rw [k 0 (by omega) (by omega) (by omega) (by omega), h9 1 (by omega)]; exact st⟩
  by_cases e : b = a
  · rw [e]; exact ht t htt
  · obtain ⟨o1, o2, o3⟩ := ho (24 * b + t) (by omega)
    have hc := fun c (x : c = 63 + 4 * b ∨ c = 64 + 4 * b ∨ c = 65 + 4 * b) => h c (by omega) (by omega) (by omega) (by omega) (by omega) (by omega) (by omega) (by omega)
    rw [o1, o2, o3, hc (63 + 4 * b) (by omega), hc (64 + 4 * b) (by omega), hc (65 + 4 * b) (by omega)]
    exact r4 b hb t htt
theorem op_mark {M : Mm} (hR : Rel M) (a k x y : Int32) : OPi mX11_mark mX12_mark 2 2 [.int a, .int k, .int x, .int y] M := by
  cases hb0 : (f_in a 0 7 && f_in k 0 23 && f_in x (-1000) 1000 && f_in y (-1000) 1000)
  · exact OPi_b hR (x_mark_bad M a k x y hb0) (m_mark_bad M a k x y hb0)
  · obtain ⟨hb0, hy⟩ := and_ff.mp hb0
    obtain ⟨hb0, hx⟩ := and_ff.mp hb0
    obtain ⟨h1, h2⟩ := and_ff.mp hb0
    obtain ⟨a, ha, rfl⟩ := i7 h1
    obtain ⟨k, hk, rfl⟩ := i23 h2
    have r4 := hR.1.2.2.2.1 a ha
    have hm2 := m_mark_ok (wi (wi (wi M (63 + 4 * a) k 1) (64 + 4 * a) k x) (65 + 4 * a) k y) ha hk x y hx hy
    rw [show (wi (wi (wi M (63 + 4 * a) k 1) (64 + 4 * a) k x) (65 + 4 * a) k y).1 105 (24 * a + k) = M.1 (63 + 4 * a) k from ((wi_r (by omega)).trans ((wi_r (by omega)).trans (wi_r (by omega)))).trans (r4 k hk).1] at hm2
    refine OPi_X (x_mark_ok M ha hk x y hx hy) hm2 (Rel_trace ha hR (fun c c1 c2 c3 c4 c5 c6 c7 c8 => ((wi_c (by omega)).trans ((wi_c (by omega)).trans ((wi_c (by omega)).trans ((wi_c (by omega)).trans ((wi_c (by omega)).trans ((wi_c (by omega)).trans (wi_c (by omega))))))))) (fun j hj => ((wi_r (by omega)).trans ((wi_r (by omega)).trans ((wi_r (by omega)).trans ((wi_r (by omega)).trans ((wi_r (by omega)).trans ((wi_r (by omega)).trans (wi_r (by omega))))))))) (fun q hq => ⟨((wi_r (by omega)).trans ((wi_r (by omega)).trans ((wi_r (by omega)).trans ((wi_r (by omega)).trans ((wi_r (by omega)).trans ((wi_r (by omega)).trans (wi_r (by omega)))))))), ((wi_r (by omega)).trans ((wi_r (by omega)).trans ((wi_r (by omega)).trans ((wi_r (by omega)).trans ((wi_r (by omega)).trans ((wi_r (by omega)).trans (wi_r (by omega)))))))), ((wi_r (by omega)).trans ((wi_r (by omega)).trans ((wi_r (by omega)).trans ((wi_r (by omega)).trans ((wi_r (by omega)).trans ((wi_r (by omega)).trans (wi_r (by omega))))))))⟩) (fun t ht => ?_))
    by_cases e : t = k
    · subst e
      exact ⟨((wi_r (by omega)).trans ((wi_r (by omega)).trans wi_s)).trans ((wi_r (by omega)).trans ((wi_r (by omega)).trans ((wi_r (by omega)).trans ((wi_r (by omega)).trans ((wi_r (by omega)).trans ((wi_r (by omega)).trans wi_s)))))).symm, ((wi_r (by omega)).trans wi_s).trans ((wi_r (by omega)).trans ((wi_r (by omega)).trans ((wi_r (by omega)).trans ((wi_r (by omega)).trans ((wi_r (by omega)).trans wi_s))))).symm, wi_s.trans ((wi_r (by omega)).trans ((wi_r (by omega)).trans ((wi_r (by omega)).trans ((wi_r (by omega)).trans wi_s)))).symm⟩
    · obtain ⟨c1, c2, c3⟩ := r4 t ht
      exact ⟨(((wi_r (by omega)).trans ((wi_r (by omega)).trans ((wi_r (by omega)).trans ((wi_r (by omega)).trans ((wi_r (by omega)).trans ((wi_r (by omega)).trans (wi_r (by omega)))))))).trans c1).trans ((wi_r (by omega)).trans ((wi_r (by omega)).trans ((wi_r (by omega)).trans ((wi_r (by omega)).trans ((wi_r (by omega)).trans ((wi_r (by omega)).trans (wi_r (by omega)))))))).symm, (((wi_r (by omega)).trans ((wi_r (by omega)).trans ((wi_r (by omega)).trans ((wi_r (by omega)).trans ((wi_r (by omega)).trans ((wi_r (by omega)).trans (wi_r (by omega)))))))).trans c2).trans ((wi_r (by omega)).trans ((wi_r (by omega)).trans ((wi_r (by omega)).trans ((wi_r (by omega)).trans ((wi_r (by omega)).trans ((wi_r (by omega)).trans (wi_r (by omega)))))))).symm, (((wi_r (by omega)).trans ((wi_r (by omega)).trans ((wi_r (by omega)).trans ((wi_r (by omega)).trans ((wi_r (by omega)).trans ((wi_r (by omega)).trans (wi_r (by omega)))))))).trans c3).trans ((wi_r (by omega)).trans ((wi_r (by omega)).trans ((wi_r (by omega)).trans ((wi_r (by omega)).trans ((wi_r (by omega)).trans ((wi_r (by omega)).trans (wi_r (by omega)))))))).symm⟩
theorem op_rub {M : Mm} (hR : Rel M) (a k : Int32) : OPi mX11_rub mX12_rub 2 2 [.int a, .int k] M := by
  cases hb0 : (f_in a 0 7 && f_in k 0 23)
  · exact OPi_b hR (x_rub_bad M a k hb0) (m_rub_bad M a k hb0)
  · obtain ⟨h1, h2⟩ := and_ff.mp hb0
    obtain ⟨a, ha, rfl⟩ := i7 h1
    obtain ⟨k, hk, rfl⟩ := i23 h2
    have r4 := hR.1.2.2.2.1 a ha
    have hm2 := m_rub_ok (wi M (63 + 4 * a) k 0) ha hk
    rw [show (wi M (63 + 4 * a) k 0).1 105 (24 * a + k) = M.1 (63 + 4 * a) k from (wi_r (by omega)).trans (r4 k hk).1] at hm2
    refine OPi_X (x_rub_ok M ha hk) hm2 (Rel_trace ha hR (fun c c1 c2 c3 c4 c5 c6 c7 c8 => ((wi_c (by omega)).trans ((wi_c (by omega)).trans (wi_c (by omega))))) (fun j hj => ((wi_r (by omega)).trans ((wi_r (by omega)).trans (wi_r (by omega))))) (fun q hq => ⟨((wi_r (by omega)).trans ((wi_r (by omega)).trans (wi_r (by omega)))), ((wi_r (by omega)).trans ((wi_r (by omega)).trans (wi_r (by omega)))), ((wi_r (by omega)).trans ((wi_r (by omega)).trans (wi_r (by omega))))⟩) (fun t ht => ?_))
    obtain ⟨c1, c2, c3⟩ := r4 t ht
    refine ⟨?_, (((wi_r (by omega)).trans ((wi_r (by omega)).trans (wi_r (by omega)))).trans c2).trans ((wi_r (by omega)).trans ((wi_r (by omega)).trans (wi_r (by omega)))).symm, (((wi_r (by omega)).trans ((wi_r (by omega)).trans (wi_r (by omega)))).trans c3).trans ((wi_r (by omega)).trans ((wi_r (by omega)).trans (wi_r (by omega)))).symm⟩
    by_cases e : t = k
    · subst e
      exact wi_s.trans ((wi_r (by omega)).trans ((wi_r (by omega)).trans wi_s)).symm
    · exact (((wi_r (by omega)).trans ((wi_r (by omega)).trans (wi_r (by omega)))).trans c1).trans ((wi_r (by omega)).trans ((wi_r (by omega)).trans (wi_r (by omega)))).symm
theorem op_marked {M : Mm} (hR : Rel M) (a k w : Int32) : OPi mX11_marked mX12_marked 2 2 [.int a, .int k, .int w] M := by
  cases hb0 : (f_in a 0 7 && f_in k 0 23 && f_in w 0 1)
  · exact OPi_b hR (x_marked_bad M a k w hb0) (m_marked_bad M a k w hb0)
  · obtain ⟨hb0, hw⟩ := and_ff.mp hb0
    obtain ⟨h1, h2⟩ := and_ff.mp hb0
    obtain ⟨a, ha, rfl⟩ := i7 h1
    obtain ⟨k, hk, rfl⟩ := i23 h2
    have r4 := hR.1.2.2.2.1 a ha
    rcases w01 hw with rfl | rfl
    · have hm2 := m_marked_0 M ha hk
      rw [(r4 k hk).1, (r4 k hk).2.1] at hm2
      exact OPi_b hR (x_marked_0 M ha hk) hm2
    · have hm2 := m_marked_1 M ha hk
      rw [(r4 k hk).1, (r4 k hk).2.2] at hm2
      exact OPi_b hR (x_marked_1 M ha hk) hm2
theorem op_draw {M : Mm} (hR : Rel M) (a : Int32) : ∃ d, d ≤ 4 ∧ OPi mX11_draw mX12_draw d 5 [.int a] M := by
  cases hb0 : f_in a 0 7
  · exact ⟨4, Nat.le_refl _, OPi_b hR (x_draw_bad M a hb0) (m_draw_bad M a hb0)⟩
  · obtain ⟨a, ha, rfl⟩ := i7 hb0
    refine ⟨3, by omega, ?_⟩
    obtain ⟨N, hN, hN24, h7, hT, hE, hMA⟩ := gT2 hR.1
    refine ⟨_, _, x_draw_ok M ha hN hN24, fun M1 h1 => ?_⟩
    obtain ⟨d1, d2, d3, d4⟩ := h1
    have hA1 := hMA M1 (by rw [d4 96 (by omega) (by omega) (by omega) (by omega)]) (fun c c1 c2 => d4 c (by omega) (by omega) (by omega) (by omega))
    refine AQ_wk (m_draw_ok M1 ha hA1) (fun M2 h2 => ?_)
    obtain ⟨e1, e2, e3, e4, e5⟩ := h2
    have w9 : ∀ c, c ≠ 96 → c ≠ 105 → c ≠ 106 → c ≠ 107 → M2.1 c = M1.1 c := fun c c0 c1 c2 c3 => (e5 c c1 c2 c3).trans (wi_c c0)
    have r4 := hR.1.2.2.2.1 a ha
    refine Rel_trace ha hR (fun c c1 c2 c3 c4 c5 c6 c7 c8 => (w9 c c5 c6 c7 c8).trans (d4 c c1 c2 c3 c4)) (fun j hj => (congrFun (e5 96 (by omega) (by omega) (by omega)) j).trans ((wi_r (by omega)).trans (congrFun (d4 96 (by omega) (by omega) (by omega) (by omega)) j))) (fun q hq => ⟨?_, ?_, ?_⟩) (fun t ht => ⟨?_, ?_, ?_⟩)
    · exact (e2 q hq).trans (congrFun ((wi_c (by omega)).trans (d4 105 (by omega) (by omega) (by omega) (by omega))) q)
    · rw [e3 q, if_neg (by omega)]
      exact congrFun ((wi_c (by omega)).trans (d4 106 (by omega) (by omega) (by omega) (by omega))) q
    · rw [e4 q, if_neg (by omega)]
      exact congrFun ((wi_c (by omega)).trans (d4 107 (by omega) (by omega) (by omega) (by omega))) q
    · rw [e1 t ht, w9 (63 + 4 * a) (by omega) (by omega) (by omega) (by omega), d1 t ht]
      rfl
    · rw [e3 (24 * a + t), w9 (64 + 4 * a) (by omega) (by omega) (by omega) (by omega), d2 t, show 24 * a + t - 24 * a = t by omega]
      by_cases q : t < N ∧ SHW M t = true
      · rw [if_pos q, if_pos ⟨by omega, by omega, q⟩]; rfl
      · rw [if_neg q, if_neg (fun z => q z.2.2)]
        exact (congrFun ((wi_c (by omega)).trans (d4 106 (by omega) (by omega) (by omega) (by omega))) _).trans (r4 t ht).2.1
    · rw [e4 (24 * a + t), w9 (65 + 4 * a) (by omega) (by omega) (by omega) (by omega), d3 t, show 24 * a + t - 24 * a = t by omega]
      by_cases q : t < N ∧ SHW M t = true
      · rw [if_pos q, if_pos ⟨by omega, by omega, q⟩]; rfl
      · rw [if_neg q, if_neg (fun z => q z.2.2)]
        exact (congrFun ((wi_c (by omega)).trans (d4 107 (by omega) (by omega) (by omega) (by omega))) _).trans (r4 t ht).2.2
theorem gS {M M1 : Mm} (hR : Rel0 M) (q : Q0 M M1) : M2 M1 (M.1 94) (M.1 95) := M2_o (q.1 111 (by unfold cc; omega)) hR.2.2.2.2.1
theorem op_far {M : Mm} (hR : Rel M) (p q w : Int32) : OPl mX11_far mX12_far 3 2 [.int p, .int q, .int w] M := by
  cases hb0 : (f_in p (-1000) 1000 && f_in q (-1000) 1000 && f_in w 0 1)
  · exact OPl_b hR (x_far_bad M p q w hb0) (m_far_bad M p q w hb0)
  · obtain ⟨hb0, hw⟩ := and_ff.mp hb0
    obtain ⟨h1, h2⟩ := and_ff.mp hb0
    rcases w01 hw with rfl | rfl
    · exact OPl_q hR (x_far_0 M p q h1 h2) (fun M1 e => Qs_eq e) (P2 := fun M1 M2 => M2.1 = (wi M1 96 0 0).1) (fun M1 z => m_far_0 M1 p q h1 h2 (gS hR.1 z.1)) (fun M1 M2 e => Qs2_eq e)
    · exact OPl_q hR (x_far_1 M p q h1 h2) (fun M1 e => Qs_eq e) (P2 := fun M1 M2 => M2.1 = (wi M1 96 0 0).1) (fun M1 z => m_far_1 M1 p q h1 h2 (gS hR.1 z.1)) (fun M1 M2 e => Qs2_eq e)
theorem op_high {M : Mm} (hR : Rel M) (p q r : Int32) : OPl mX11_high mX12_high 3 2 [.int p, .int q, .int r] M := by
  cases hb0 : (f_in p (-1000) 1000 && f_in q (-1000) 1000 && f_in r (-1000) 1000)
  · exact OPl_b hR (x_high_bad M p q r hb0) (m_high_bad M p q r hb0)
  · obtain ⟨hb0, h3⟩ := and_ff.mp hb0
    obtain ⟨h1, h2⟩ := and_ff.mp hb0
    exact OPl_q hR (x_high M p q r h1 h2 h3) (fun M1 e => Qs_eq e) (P2 := fun M1 M2 => M2.1 = (wi M1 96 0 0).1) (fun M1 z => m_high M1 p q r h1 h2 h3 (gS hR.1 z.1)) (fun M1 M2 e => Qs2_eq e)
theorem sgp_1 (p e : Int32) : sgp p e 1 = p.toInt64 := by
  unfold sgp
  rw [show off3 1 = 0 from rfl, Int32.zero_mul, Int32.add_zero]
theorem ok_4 (S0 S1 : Nat → Int32) (p q e : Int32) : okP S0 S1 p q e 4 = g_ok S0 S1 p.toInt64 q.toInt64 := by
  show g_ok S0 S1 (sgp p e 1) (sgp q e 1) = _
  rw [sgp_1, sgp_1]
theorem v_4 (S0 S1 : Nat → Int32) (p q e : Int32) : vP S0 S1 p q e 4 = f_lby (g_up S0 S1 p.toInt64 q.toInt64) (g_lo S0 S1 p.toInt64 q.toInt64) := by
  show f_lby (g_up S0 S1 (sgp p e 1) (sgp q e 1)) (g_lo S0 S1 (sgp p e 1) (sgp q e 1)) = _
  rw [sgp_1, sgp_1]
theorem lmin_x (a b : Int64) : (f_lmin a b).toInt ≤ a.toInt ∧ (f_lmin a b).toInt ≤ b.toInt ∧ (f_lmin a b = a ∨ f_lmin a b = b) := by
  unfold f_lmin
  by_cases h : b < a
  · rw [if_pos h]; rw [Int64.lt_iff_toInt_lt] at h; exact ⟨by omega, Int.le_refl _, Or.inr rfl⟩
  · rw [if_neg h]; rw [Int64.lt_iff_toInt_lt] at h; exact ⟨Int.le_refl _, by omega, Or.inl rfl⟩
theorem lmax_x (a b : Int64) : a.toInt ≤ (f_lmax a b).toInt ∧ b.toInt ≤ (f_lmax a b).toInt ∧ (f_lmax a b = a ∨ f_lmax a b = b) := by
  unfold f_lmax
  by_cases h : a < b
  · rw [if_pos h]; rw [Int64.lt_iff_toInt_lt] at h; exact ⟨by omega, Int.le_refl _, Or.inr rfl⟩
  · rw [if_neg h]; rw [Int64.lt_iff_toInt_lt] at h; exact ⟨Int.le_refl _, by omega, Or.inl rfl⟩
theorem fold_lo (c : Int64) (v : Nat → Int64) : ∀ n, (fold f_lmin c v n).toInt ≤ c.toInt ∧ (∀ i, i < n → (fold f_lmin c v n).toInt ≤ (v i).toInt) ∧ (fold f_lmin c v n = c ∨ ∃ i, i < n ∧ fold f_lmin c v n = v i)
  | 0 => ⟨Int.le_refl _, fun i h => absurd h (Nat.not_lt_zero _), Or.inl rfl⟩
  | n + 1 => by
    obtain ⟨a1, a2, a3⟩ := fold_lo c v n
    obtain ⟨b1, b2, b3⟩ := lmin_x (fold f_lmin c v n) (v n)
    refine ⟨Int.le_trans b1 a1, fun i hi => ?_, ?_⟩
    · rcases Nat.lt_succ_iff_lt_or_eq.mp hi with q | q
      · exact Int.le_trans b1 (a2 i q)
      · rw [q]; exact b2
    · rcases b3 with e | e
      · rcases a3 with f | ⟨i, hi, f⟩
        · exact Or.inl (e.trans f)
        · exact Or.inr ⟨i, by omega, e.trans f⟩
      · exact Or.inr ⟨n, by omega, e⟩
theorem fold_hi (c : Int64) (v : Nat → Int64) : ∀ n, c.toInt ≤ (fold f_lmax c v n).toInt ∧ (∀ i, i < n → (v i).toInt ≤ (fold f_lmax c v n).toInt) ∧ (fold f_lmax c v n = c ∨ ∃ i, i < n ∧ fold f_lmax c v n = v i)
  | 0 => ⟨Int.le_refl _, fun i h => absurd h (Nat.not_lt_zero _), Or.inl rfl⟩
  | n + 1 => by
    obtain ⟨a1, a2, a3⟩ := fold_hi c v n
    obtain ⟨b1, b2, b3⟩ := lmax_x (fold f_lmax c v n) (v n)
    refine ⟨Int.le_trans a1 b1, fun i hi => ?_, ?_⟩
    · rcases Nat.lt_succ_iff_lt_or_eq.mp hi with q | q
      · exact Int.le_trans (a2 i q) b1
      · rw [q]; exact b2
    · rcases b3 with e | e
      · rcases a3 with f | ⟨i, hi, f⟩
        · exact Or.inl (e.trans f)
        · exact Or.inr ⟨i, by omega, e.trans f⟩
      · exact Or.inr ⟨n, by omega, e⟩
theorem mfd_lo (v : Nat → Int64) : ∀ n, (∀ i, i < n + 1 → (mfd f_lmin v (n + 1)).toInt ≤ (v i).toInt) ∧ ∃ i, i < n + 1 ∧ mfd f_lmin v (n + 1) = v i
  | 0 => ⟨fun i h => by rw [show i = 0 by omega]; exact Int.le_refl _, 0, by omega, rfl⟩
  | n + 1 => by
    obtain ⟨a1, j, hj, a2⟩ := mfd_lo v n
    obtain ⟨b1, b2, b3⟩ := lmin_x (mfd f_lmin v (n + 1)) (v (n + 1))
    have e : mfd f_lmin v (n + 1 + 1) = f_lmin (mfd f_lmin v (n + 1)) (v (n + 1)) := if_neg (by omega)
    rw [e]
    refine ⟨fun i hi => ?_, ?_⟩
    · rcases Nat.lt_succ_iff_lt_or_eq.mp hi with q | q
      · exact Int.le_trans b1 (a1 i q)
      · rw [q]; exact b2
    · rcases b3 with f | f
      · exact ⟨j, by omega, f.trans a2⟩
      · exact ⟨n + 1, by omega, f⟩
theorem mfd_hi (v : Nat → Int64) : ∀ n, (∀ i, i < n + 1 → (v i).toInt ≤ (mfd f_lmax v (n + 1)).toInt) ∧ ∃ i, i < n + 1 ∧ mfd f_lmax v (n + 1) = v i
  | 0 => ⟨fun i h => by rw [show i = 0 by omega]; exact Int.le_refl _, 0, by omega, rfl⟩
  | n + 1 => by
    obtain ⟨a1, j, hj, a2⟩ := mfd_hi v n
    obtain ⟨b1, b2, b3⟩ := lmax_x (mfd f_lmax v (n + 1)) (v (n + 1))
    have e : mfd f_lmax v (n + 1 + 1) = f_lmax (mfd f_lmax v (n + 1)) (v (n + 1)) := if_neg (by omega)
    rw [e]
    refine ⟨fun i hi => ?_, ?_⟩
    · rcases Nat.lt_succ_iff_lt_or_eq.mp hi with q | q
      · exact Int.le_trans (a1 i q) b1
      · rw [q]; exact b2
    · rcases b3 with f | f
      · exact ⟨j, by omega, f.trans a2⟩
      · exact ⟨n + 1, by omega, f⟩
theorem span_lo (v : Nat → Int64) : fold f_lmin (v 4) v 9 = mfd f_lmin v 9 := by
  obtain ⟨a1, a2, a3⟩ := fold_lo (v 4) v 9
  obtain ⟨b1, j, hj, b2⟩ := mfd_lo v 8
  apply Int64.toInt_inj.mp
  apply Int.le_antisymm
  · rw [show mfd f_lmin v 9 = v j from b2]; exact a2 j hj
  · rcases a3 with e | ⟨i, hi, e⟩
    · rw [e]; exact b1 4 (by omega)
    · rw [e]; exact b1 i hi
theorem span_hi (v : Nat → Int64) : fold f_lmax (v 4) v 9 = mfd f_lmax v 9 := by
  obtain ⟨a1, a2, a3⟩ := fold_hi (v 4) v 9
  obtain ⟨b1, j, hj, b2⟩ := mfd_hi v 8
  apply Int64.toInt_inj.mp
  apply Int.le_antisymm
  · rcases a3 with e | ⟨i, hi, e⟩
    · rw [e]; exact b1 4 (by omega)
    · rw [e]; exact b1 i hi
  · rw [show mfd f_lmax v 9 = v j from b2]; exact a2 j hj
theorem span_ok (S0 S1 : Nat → Int32) (p q e : Int32) : (g_ok S0 S1 p.toInt64 q.toInt64 && allB (okP S0 S1 p q e) 9) = allB (okP S0 S1 p q e) 9 := by
  rw [← ok_4 S0 S1 p q e]
  cases h : allB (okP S0 S1 p q e) 9
  · rw [Bool.and_false]
  · rw [all_at h (k := 4) (by decide)]; rfl
theorem op_span {M : Mm} (hR : Rel M) (p q e w : Int32) : OPl mX11_span mX12_span 3 2 [.int p, .int q, .int e, .int w] M := by
  cases hb0 : (f_in p (-1000) 1000 && f_in q (-1000) 1000 && f_in e 0 20 && f_in w 0 1)
  · exact OPl_b hR (x_span_bad M p q e w hb0) (m_span_bad M p q e w hb0)
  · obtain ⟨hb0, hw⟩ := and_ff.mp hb0
    obtain ⟨hb0, h3⟩ := and_ff.mp hb0
    obtain ⟨h1, h2⟩ := and_ff.mp hb0
    rcases w01 hw with rfl | rfl
    · have hx := x_span_0 M p q e h1 h2 h3
      rw [span_ok, ← v_4 (M.1 94) (M.1 95) p q e, span_lo] at hx
      exact OPl_q hR hx (fun M1 e => Qs_eq e) (P2 := fun M1 M2 => M2.1 = (wi M1 96 0 0).1) (fun M1 z => m_span_0 M1 p q e h1 h2 h3 (gS hR.1 z.1)) (fun M1 M2 e => Qs2_eq e)
    · have hx := x_span_1 M p q e h1 h2 h3
      rw [span_ok, ← v_4 (M.1 94) (M.1 95) p q e, span_hi] at hx
      exact OPl_q hR hx (fun M1 e => Qs_eq e) (P2 := fun M1 M2 => M2.1 = (wi M1 96 0 0).1) (fun M1 z => m_span_1 M1 p q e h1 h2 h3 (gS hR.1 z.1)) (fun M1 M2 e => Qs2_eq e)
theorem Rel_stand {M M2v : Mm} {i : Nat} (hi : i < 2) (hR : Rel M) (h : ∀ c, c ≠ 94 + i → c ≠ 96 → c ≠ 111 → M2v.1 c = M.1 c) (h9 : ∀ j, j ≠ 0 → M2v.1 96 j = M.1 96 j) (r5 : R5 M2v) : Rel M2v := by
  obtain ⟨⟨r1, r2, r3, r4, -, r6, r8⟩, st⟩ := hR
  have k := fun c (x1 : c < 94) => h c (by omega) (by omega) (by omega)
  have k2 := fun c (x1 : 96 < c) (x2 : c ≠ 111) => h c (by omega) (by omega) x2
  exact ⟨⟨R1_f (by rw [k 0 (by omega)]) (h9 7 (by omega)) (fun c hc => h c (by omega) (by omega) (by omega)) r1, R2_f (k 3 (by omega)) (k 4 (by omega)) (k2 100 (by omega) (by omega)) (k2 101 (by omega) (by omega)) r2, R3_f (fun c hc => h c (by omega) (by omega) (by omega)) r3, R4_f (fun c hc => h c (by omega) (by omega) (by omega)) r4, r5, R6_f (by rw [k 20 (by omega)]) (h9 28 (by omega)) (k 21 (by omega)) (k2 112 (by omega) (by omega)) r6,
    by rw [k 15 (by omega)]; exact r8.1, by rw [k 16 (by omega)]; exact r8.2⟩, by rw [k 0 (by omega), h9 1 (by omega)]; exact st⟩
theorem stand_c (r u v w d : Int32) : (f_in r 0 1 && f_in u (-1000) 1000 && f_in v (-1000) 1000 && f_in w 0 1000 && f_in d 1 1000) = (f_in r 0 1 && !decide (w < 0) && f_stand u v w d) := by
  have e : (!decide (w < 0) && f_in w (-1000) 1000) = f_in w 0 1000 := by
    unfold f_in
    by_cases h : w < 0
    · simp [h]
    · have h2 : ¬ w < -1000 := by
        rw [Int32.lt_iff_toInt_lt] at h ⊢
        rw [show (0 : Int32).toInt = 0 by decide] at h
        rw [show (-1000 : Int32).toInt = -1000 by decide]
        omega
      rw [decide_eq_false h, decide_eq_false h2]
      rfl
  rw [← e]
  unfold f_stand
  cases f_in r 0 1 <;> cases f_in u (-1000) 1000 <;> cases f_in v (-1000) 1000 <;> cases decide (w < 0) <;> cases f_in w (-1000) 1000 <;> cases f_in d 1 1000 <;> rfl
theorem j4 {j : Nat} (h : j < 4) {P : Nat → Prop} (h0 : P 0) (h1 : P 1) (h2 : P 2) (h3 : P 3) : P j := by
  rcases (show j = 0 ∨ j = 1 ∨ j = 2 ∨ j = 3 by omega) with rfl | rfl | rfl | rfl <;> assumption
theorem op_stand {M : Mm} (hR : Rel M) (r u v w d : Int32) : OPi mX11_stand mX12_stand 3 3 [.int r, .int u, .int v, .int w, .int d] M := by
  cases hb0 : (f_in r 0 1 && !decide (w < 0) && f_stand u v w d)
  · exact OPi_b hR (x_stand_bad M r u v w d hb0) (m_stand_bad M r u v w d (by rw [stand_c]; exact hb0))
  · have hb1 := hb0
    rw [← stand_c] at hb1
    obtain ⟨hb1, g4⟩ := and_ff.mp hb1
    obtain ⟨hb1, g3⟩ := and_ff.mp hb1
    obtain ⟨hb1, g2⟩ := and_ff.mp hb1
    obtain ⟨g0, g1⟩ := and_ff.mp hb1
    obtain ⟨hb0, hs⟩ := and_ff.mp hb0
    obtain ⟨-, hw⟩ := and_ff.mp hb0
    have hw : ¬ w < 0 := by simpa using hw
    obtain ⟨x1, x2, x3, x4, x5⟩ := st_x hs
    have r5 := hR.1.2.2.2.2.1
    rcases w01 g0 with rfl | rfl
    · let Mz := wi (wi (wi (wi (wi (wi (wi (wi (wi M 94 0 u) 94 1 v) 94 2 w) 94 3 d) 96 0 0) 111 0 u) 111 1 v) 111 2 w) 111 3 d
      refine OPi_X (M2 := Mz) (x_stand_ok M (i := 0) (by decide) u v w d hw hs) (m_stand_ok _ (i := 0) (by decide) u v w d g1 g2 g3 g4) (Rel_stand (i := 0) (by decide) hR (fun c c1 c2 c3 => ((wi_c (by omega)).trans ((wi_c (by omega)).trans ((wi_c (by omega)).trans ((wi_c (by omega)).trans ((wi_c (by omega)).trans ((wi_c (by omega)).trans ((wi_c (by omega)).trans ((wi_c (by omega)).trans (wi_c (by omega))))))))))) (fun j hj => ((wi_r (by omega)).trans ((wi_r (by omega)).trans ((wi_r (by omega)).trans ((wi_r (by omega)).trans ((wi_r (by omega)).trans ((wi_r (by omega)).trans ((wi_r (by omega)).trans ((wi_r (by omega)).trans (wi_r (by omega))))))))))) ⟨fun j hj => j4 hj (P := fun j => Mz.1 111 (j) = Mz.1 94 j) (((wi_r (by omega)).trans ((wi_r (by omega)).trans ((wi_r (by omega)).trans wi_s))).trans ((wi_r (by omega)).trans ((wi_r (by omega)).trans ((wi_r (by omega)).trans ((wi_r (by omega)).trans ((wi_r (by omega)).trans ((wi_r (by omega)).trans ((wi_r (by omega)).trans ((wi_r (by omega)).trans wi_s)))))))).symm) (((wi_r (by omega)).trans ((wi_r (by omega)).trans wi_s)).trans ((wi_r (by omega)).trans ((wi_r (by omega)).trans ((wi_r (by omega)).trans ((wi_r (by omega)).trans ((wi_r (by omega)).trans ((wi_r (by omega)).trans ((wi_r (by omega)).trans wi_s))))))).symm) (((wi_r (by omega)).trans wi_s).trans ((wi_r (by omega)).trans ((wi_r (by omega)).trans ((wi_r (by omega)).trans ((wi_r (by omega)).trans ((wi_r (by omega)).trans ((wi_r (by omega)).trans wi_s)))))).symm) (wi_s.trans ((wi_r (by omega)).trans ((wi_r (by omega)).trans ((wi_r (by omega)).trans ((wi_r (by omega)).trans ((wi_r (by omega)).trans wi_s))))).symm), fun j hj => (((wi_r (by omega)).trans ((wi_r (by omega)).trans ((wi_r (by omega)).trans ((wi_r (by omega)).trans ((wi_r (by omega)).trans ((wi_r (by omega)).trans ((wi_r (by omega)).trans ((wi_r (by omega)).trans (wi_r (by omega)))))))))).trans (r5.2.1 j hj)).trans ((wi_r (by omega)).trans ((wi_r (by omega)).trans ((wi_r (by omega)).trans ((wi_r (by omega)).trans ((wi_r (by omega)).trans ((wi_r (by omega)).trans ((wi_r (by omega)).trans ((wi_r (by omega)).trans (wi_r (by omega)))))))))).symm, ⟨by rw [((wi_r (by omega)).trans ((wi_r (by omega)).trans ((wi_r (by omega)).trans ((wi_r (by omega)).trans ((wi_r (by omega)).trans ((wi_r (by omega)).trans ((wi_r (by omega)).trans ((wi_r (by omega)).trans wi_s))))))))]; exact x1, by rw [((wi_r (by omega)).trans ((wi_r (by omega)).trans ((wi_r (by omega)).trans ((wi_r (by omega)).trans ((wi_r (by omega)).trans ((wi_r (by omega)).trans ((wi_r (by omega)).trans wi_s)))))))]; exact x2, by rw [((wi_r (by omega)).trans ((wi_r (by omega)).trans ((wi_r (by omega)).trans ((wi_r (by omega)).trans ((wi_r (by omega)).trans ((wi_r (by omega)).trans wi_s))))))]; exact x3, by rw [((wi_r (by omega)).trans ((wi_r (by omega)).trans ((wi_r (by omega)).trans ((wi_r (by omega)).trans ((wi_r (by omega)).trans wi_s)))))]; exact x4, by rw [((wi_r (by omega)).trans ((wi_r (by omega)).trans ((wi_r (by omega)).trans ((wi_r (by omega)).trans ((wi_r (by omega)).trans wi_s)))))]; exact x5⟩, (by show RS (Mz.1 95); rw [show Mz.1 95 = M.1 95 from ((wi_c (by omega)).trans ((wi_c (by omega)).trans ((wi_c (by omega)).trans ((wi_c (by omega)).trans ((wi_c (by omega)).trans ((wi_c (by omega)).trans ((wi_c (by omega)).trans ((wi_c (by omega)).trans (wi_c (by omega))))))))))]; exact r5.2.2.2)⟩)
    · let Mz := wi (wi (wi (wi (wi (wi (wi (wi (wi M 95 0 u) 95 1 v) 95 2 w) 95 3 d) 96 0 0) 111 4 u) 111 5 v) 111 6 w) 111 7 d
      refine OPi_X (M2 := Mz) (x_stand_ok M (i := 1) (by decide) u v w d hw hs) (m_stand_ok _ (i := 1) (by decide) u v w d g1 g2 g3 g4) (Rel_stand (i := 1) (by decide) hR (fun c c1 c2 c3 => ((wi_c (by omega)).trans ((wi_c (by omega)).trans ((wi_c (by omega)).trans ((wi_c (by omega)).trans ((wi_c (by omega)).trans ((wi_c (by omega)).trans ((wi_c (by omega)).trans ((wi_c (by omega)).trans (wi_c (by omega))))))))))) (fun j hj => ((wi_r (by omega)).trans ((wi_r (by omega)).trans ((wi_r (by omega)).trans ((wi_r (by omega)).trans ((wi_r (by omega)).trans ((wi_r (by omega)).trans ((wi_r (by omega)).trans ((wi_r (by omega)).trans (wi_r (by omega))))))))))) ⟨fun j hj => (((wi_r (by omega)).trans ((wi_r (by omega)).trans ((wi_r (by omega)).trans ((wi_r (by omega)).trans ((wi_r (by omega)).trans ((wi_r (by omega)).trans ((wi_r (by omega)).trans ((wi_r (by omega)).trans (wi_r (by omega)))))))))).trans (r5.1 j hj)).trans ((wi_r (by omega)).trans ((wi_r (by omega)).trans ((wi_r (by omega)).trans ((wi_r (by omega)).trans ((wi_r (by omega)).trans ((wi_r (by omega)).trans ((wi_r (by omega)).trans ((wi_r (by omega)).trans (wi_r (by omega)))))))))).symm, fun j hj => j4 hj (P := fun j => Mz.1 111 (4 + j) = Mz.1 95 j) (((wi_r (by omega)).trans ((wi_r (by omega)).trans ((wi_r (by omega)).trans wi_s))).trans ((wi_r (by omega)).trans ((wi_r (by omega)).trans ((wi_r (by omega)).trans ((wi_r (by omega)).trans ((wi_r (by omega)).trans ((wi_r (by omega)).trans ((wi_r (by omega)).trans ((wi_r (by omega)).trans wi_s)))))))).symm) (((wi_r (by omega)).trans ((wi_r (by omega)).trans wi_s)).trans ((wi_r (by omega)).trans ((wi_r (by omega)).trans ((wi_r (by omega)).trans ((wi_r (by omega)).trans ((wi_r (by omega)).trans ((wi_r (by omega)).trans ((wi_r (by omega)).trans wi_s))))))).symm) (((wi_r (by omega)).trans wi_s).trans ((wi_r (by omega)).trans ((wi_r (by omega)).trans ((wi_r (by omega)).trans ((wi_r (by omega)).trans ((wi_r (by omega)).trans ((wi_r (by omega)).trans wi_s)))))).symm) (wi_s.trans ((wi_r (by omega)).trans ((wi_r (by omega)).trans ((wi_r (by omega)).trans ((wi_r (by omega)).trans ((wi_r (by omega)).trans wi_s))))).symm), (by show RS (Mz.1 94); rw [show Mz.1 94 = M.1 94 from ((wi_c (by omega)).trans ((wi_c (by omega)).trans ((wi_c (by omega)).trans ((wi_c (by omega)).trans ((wi_c (by omega)).trans ((wi_c (by omega)).trans ((wi_c (by omega)).trans ((wi_c (by omega)).trans (wi_c (by omega))))))))))]; exact r5.2.2.1), ⟨by rw [((wi_r (by omega)).trans ((wi_r (by omega)).trans ((wi_r (by omega)).trans ((wi_r (by omega)).trans ((wi_r (by omega)).trans ((wi_r (by omega)).trans ((wi_r (by omega)).trans ((wi_r (by omega)).trans wi_s))))))))]; exact x1, by rw [((wi_r (by omega)).trans ((wi_r (by omega)).trans ((wi_r (by omega)).trans ((wi_r (by omega)).trans ((wi_r (by omega)).trans ((wi_r (by omega)).trans ((wi_r (by omega)).trans wi_s)))))))]; exact x2, by rw [((wi_r (by omega)).trans ((wi_r (by omega)).trans ((wi_r (by omega)).trans ((wi_r (by omega)).trans ((wi_r (by omega)).trans ((wi_r (by omega)).trans wi_s))))))]; exact x3, by rw [((wi_r (by omega)).trans ((wi_r (by omega)).trans ((wi_r (by omega)).trans ((wi_r (by omega)).trans ((wi_r (by omega)).trans wi_s)))))]; exact x4, by rw [((wi_r (by omega)).trans ((wi_r (by omega)).trans ((wi_r (by omega)).trans ((wi_r (by omega)).trans ((wi_r (by omega)).trans wi_s)))))]; exact x5⟩⟩)
