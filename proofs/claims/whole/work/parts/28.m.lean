/-! NUMBERS for the model's side -/
abbrev na (x : Int32) : Nat := x.toInt.natAbs
theorem t_mul {a b : Int32} {A B : Nat} (ha : na a ≤ A) (hb : na b ≤ B) (h : A * B < 2147483648) : (a * b).toInt = a.toInt * b.toInt ∧ na (a * b) ≤ A * B := by
  have h1 : (a.toInt * b.toInt).natAbs ≤ A * B := by rw [Int.natAbs_mul]; exact Nat.mul_le_mul ha hb
  have e : (a * b).toInt = a.toInt * b.toInt := by
    rw [Int32.toInt_mul]
    exact Int.bmod_eq_of_le (by omega) (by omega)
  exact ⟨e, by rw [na, e]; exact h1⟩
theorem t_add {a b : Int32} {A B : Nat} (ha : na a ≤ A) (hb : na b ≤ B) (h : A + B < 2147483648) : (a + b).toInt = a.toInt + b.toInt ∧ na (a + b) ≤ A + B := by
  simp only [na] at *
  have e : (a + b).toInt = a.toInt + b.toInt := by
    rw [Int32.toInt_add]
    exact Int.bmod_eq_of_le (by omega) (by omega)
  exact ⟨e, by rw [e]; omega⟩
theorem t_sub {a b : Int32} {A B : Nat} (ha : na a ≤ A) (hb : na b ≤ B) (h : A + B < 2147483648) : (a - b).toInt = a.toInt - b.toInt ∧ na (a - b) ≤ A + B := by
  simp only [na] at *
  have e : (a - b).toInt = a.toInt - b.toInt := by
    rw [Int32.toInt_sub]
    exact Int.bmod_eq_of_le (by omega) (by omega)
  exact ⟨e, by rw [e]; omega⟩
theorem t_neg {a : Int32} {A : Nat} (ha : na a ≤ A) (h : A < 2147483648) : (-a).toInt = -a.toInt ∧ na (-a) ≤ A := by
  simp only [na] at *
  have e : (-a).toInt = -a.toInt := by
    rw [Int32.toInt_neg]
    exact Int.bmod_eq_of_le (by omega) (by omega)
  exact ⟨e, by rw [e]; omega⟩
theorem t_div {a b : Int32} {A : Nat} (ha : na a ≤ A) (h : A < 2147483648) : (a / b).toInt = a.toInt.tdiv b.toInt ∧ na (a / b) ≤ A := by
  have h1 : (a.toInt.tdiv b.toInt).natAbs ≤ A := by rw [Int.natAbs_tdiv]; exact Nat.le_trans (Nat.div_le_self _ _) ha
  have e : (a / b).toInt = a.toInt.tdiv b.toInt := by
    rw [Int32.toInt_div]
    exact Int.bmod_eq_of_le (by omega) (by omega)
  exact ⟨e, by rw [na, e]; exact h1⟩
theorem t_abs {a : Int32} {A : Nat} (ha : na a ≤ A) (h : A < 2147483648) : (f_abs a).toInt = (na a : Int) := by
  unfold f_abs
  have e := (t_neg ha h).1
  simp only [na] at *
  have e0 : (0 : Int32).toInt = 0 := by decide
  by_cases q : 0 ≤ a
  · rw [if_pos q]; rw [Int32.le_iff_toInt_le, e0] at q; omega
  · rw [if_neg q, e]; rw [Int32.le_iff_toInt_le, e0] at q; omega
theorem in_iff (v a b : Int32) : f_in v a b = true ↔ a.toInt ≤ v.toInt ∧ v.toInt ≤ b.toInt := by
  unfold f_in
  simp only [Bool.and_eq_true, Bool.not_eq_true', decide_eq_false_iff_not, Int32.lt_iff_toInt_lt]
  omega
theorem by_ne {a b : Int32} (h : ¬ b = 0) : f_by a b = a / b := by unfold f_by; rw [if_neg h]
theorem ne_0 {z : Int32} (h : 1 ≤ z.toInt) : ¬ z = 0 := by intro e; rw [e] at h; exact absurd h (by decide)
/-- the ranges: the room's numbers, the bends, a thing's place -/
def RR (ρ : Nat → Int32) : Prop := ∀ j, j < 7 → f_in (ρ j) (nLeast j) (nMost j) = true
def RB (β : Nat → Int32) : Prop := ∀ v, v < 17 → f_in (β v) (-50) 50 = true
theorem RR_0 {ρ : Nat → Int32} (h : RR ρ) : 0 ≤ (ρ 0).toInt ∧ (ρ 0).toInt ≤ 500 := (in_iff _ _ _).mp (h 0 (by decide))
theorem RR_1 {ρ : Nat → Int32} (h : RR ρ) : 1 ≤ (ρ 1).toInt ∧ (ρ 1).toInt ≤ 100 := (in_iff _ _ _).mp (h 1 (by decide))
theorem RR_2 {ρ : Nat → Int32} (h : RR ρ) : 1 ≤ (ρ 2).toInt ∧ (ρ 2).toInt ≤ 1000 := (in_iff _ _ _).mp (h 2 (by decide))
theorem RR_5 {ρ : Nat → Int32} (h : RR ρ) : 1 ≤ (ρ 5).toInt ∧ (ρ 5).toInt ≤ 400 := (in_iff _ _ _).mp (h 5 (by decide))
theorem RR_6 {ρ : Nat → Int32} (h : RR ρ) : 1 ≤ (ρ 6).toInt ∧ (ρ 6).toInt ≤ 400 := (in_iff _ _ _).mp (h 6 (by decide))
def RT (x y z : Int32) : Prop := f_place x y z = true
theorem RT_x {x y z : Int32} (h : RT x y z) : na x ≤ 1000 ∧ na y ≤ 1000 ∧ 1 ≤ z.toInt ∧ z.toInt ≤ 5000 := by
  unfold RT f_place at h
  simp only [Bool.and_eq_true, in_iff] at h
  have e1 : (-1000 : Int32).toInt = -1000 := by decide
  have e2 : (1000 : Int32).toInt = 1000 := by decide
  have e3 : (1 : Int32).toInt = 1 := by decide
  have e4 : (5000 : Int32).toInt = 5000 := by decide
  simp only [e1, e2, e3, e4] at h
  simp only [na]
  omega
theorem RB_n {β : Nat → Int32} (h : RB β) {v : Nat} (hv : v < 17) : na (β v) ≤ 50 := by
  have q := (in_iff _ _ _).mp (h v hv)
  have e1 : (-50 : Int32).toInt = -50 := by decide
  have e2 : (50 : Int32).toInt = 50 := by decide
  rw [e1, e2] at q
  simp only [na]
  omega
/-- the first across: its bound -/
theorem first_n {x z dp : Int32} (hx : na x ≤ 1000) (hd : na dp ≤ 1050) : na (f_by (-x * dp) z) ≤ 1050000 := by
  have h1 := (t_neg hx (by decide)).2
  have h2 := (t_mul h1 hd (by decide)).2
  unfold f_by
  by_cases q : z = 0
  · rw [if_pos q]; decide
  · rw [if_neg q]; exact (t_div h2 (by decide)).2
theorem first_p {x z dp : Int32} (hx : na x ≤ 1000) (hd : na dp ≤ 1050) : na (f_by (x * dp) z) ≤ 1050000 := by
  have h2 := (t_mul hx hd (by decide)).2
  unfold f_by
  by_cases q : z = 0
  · rw [if_pos q]; decide
  · rw [if_neg q]; exact (t_div h2 (by decide)).2
theorem xs20 (v : Int32) : 0 ≤ v ^^^ 20 ↔ 0 ≤ v := by
  have e0 : (0 : Int32).toInt = 0 := by decide
  have h1 : (v ^^^ 20).toInt < 0 ↔ v.toInt < 0 := by
    have a := BitVec.msb_eq_toInt (x := (v ^^^ 20).toBitVec)
    have b := BitVec.msb_eq_toInt (x := v.toBitVec)
    rw [Int32.toBitVec_xor, BitVec.msb_xor, show (20 : Int32).toBitVec.msb = false by decide, Bool.xor_false, b] at a
    have c : decide (v.toInt < 0) = decide ((v ^^^ 20).toInt < 0) := a
    exact ((decide_eq_decide).mp c).symm
  rw [Int32.le_iff_toInt_le, Int32.le_iff_toInt_le, e0]
  omega
theorem fdiv_p {v : Int32} (h : 0 ≤ v) : f_fdiv v 20 = v / 20 := by
  unfold f_fdiv
  rw [if_pos ((xs20 v).mpr h)]
theorem fdiv_m {v : Int32} (hv : na v ≤ 2000000) (h : ¬ 0 ≤ v) : f_fdiv v 20 = -((19 - v) / 20) := by
  have e0 : (0 : Int32).toInt = 0 := by decide
  have e1 : (1 : Int32).toInt = 1 := by decide
  have e20 : (20 : Int32).toInt = 20 := by decide
  have e19 : (19 : Int32).toInt = 19 := by decide
  have hn : v.toInt < 0 := by rw [Int32.le_iff_toInt_le, e0] at h; omega
  obtain ⟨d1, d2⟩ := t_div (b := 20) hv (by decide)
  rw [e20] at d1
  have q : v.toInt.tdiv 20 = -((-v.toInt) / 20) := by
    rw [show v.toInt = -(-v.toInt) by omega, Int.neg_tdiv, Int.tdiv_eq_ediv_of_nonneg (by omega)]
    omega
  obtain ⟨m1, _⟩ := t_mul (A := 2000000) (B := 20) d2 (show na 20 ≤ 20 by decide) (by decide)
  obtain ⟨s1, s2⟩ := t_sub (A := 19) (B := 2000000) (a := 19) (b := v) (by decide) hv (by decide)
  obtain ⟨u1, u2⟩ := t_div (b := 20) s2 (by decide)
  obtain ⟨w1, _⟩ := t_neg u2 (by decide)
  have q2 : (19 - v).toInt.tdiv 20 = (19 - v.toInt) / 20 := by
    rw [s1, e19, Int.tdiv_eq_ediv_of_nonneg (by omega)]
  obtain ⟨y1, _⟩ := t_sub (b := 1) (B := 1) d2 (by decide) (by decide)
  unfold f_fdiv
  rw [if_neg (fun c => h ((xs20 v).mp c))]
  apply Int32.toInt_inj.mp
  by_cases c : v / 20 * 20 = v
  · rw [if_pos c]
    have c2 := congrArg Int32.toInt c
    rw [m1, d1, e20, q] at c2
    rw [w1, u1, e20, q2, d1, q]
    omega
  · rw [if_neg c]
    have c2 : ¬ v.toInt.tdiv 20 * 20 = v.toInt := by
      intro e; apply c; apply Int32.toInt_inj.mp; rw [m1, d1, e20]; exact e
    rw [q] at c2
    rw [w1, u1, e20, q2, y1, d1, e1, q]
    omega
theorem cl_lo {q : Int32} (h : ¬ -8 ≤ q) : f_max (-8) (f_min 8 q) = -8 := by
  have e8 : (8 : Int32).toInt = 8 := by decide
  have em : (-8 : Int32).toInt = -8 := by decide
  unfold f_max f_min
  rw [Int32.le_iff_toInt_le, em] at h
  have a1 : q < 8 := by rw [Int32.lt_iff_toInt_lt, e8]; omega
  have a2 : ¬ -8 < q := by rw [Int32.lt_iff_toInt_lt, em]; omega
  rw [if_pos a1, if_neg a2]
theorem cl_hi {q : Int32} (h : ¬ q ≤ 8) : f_max (-8) (f_min 8 q) = 8 := by
  have e8 : (8 : Int32).toInt = 8 := by decide
  unfold f_max f_min
  rw [Int32.le_iff_toInt_le, e8] at h
  have a1 : ¬ q < 8 := by rw [Int32.lt_iff_toInt_lt, e8]; omega
  rw [if_neg a1, if_pos (by decide)]
theorem cl_mid {q : Int32} (h1 : -8 ≤ q) (h2 : q ≤ 8) : f_max (-8) (f_min 8 q) = q := by
  have e8 : (8 : Int32).toInt = 8 := by decide
  have em : (-8 : Int32).toInt = -8 := by decide
  unfold f_max f_min
  rw [Int32.le_iff_toInt_le, em] at h1
  rw [Int32.le_iff_toInt_le, e8] at h2
  by_cases a : q < 8
  · rw [if_pos a]
    by_cases b : -8 < q
    · rw [if_pos b]
    · rw [if_neg b]
      apply Int32.toInt_inj.mp
      rw [Int32.lt_iff_toInt_lt, em] at b
      rw [em]; omega
  · rw [if_neg a, if_pos (by decide)]
    apply Int32.toInt_inj.mp
    rw [Int32.lt_iff_toInt_lt, e8] at a
    rw [e8]; omega
theorem far_n {β : Nat → Int32} (hb : RB β) {x z dp : Int32} (h1 : 1 ≤ dp.toInt) (h2 : dp.toInt ≤ 1000) : 1 ≤ (f_far β x z dp).toInt ∧ (f_far β x z dp).toInt ≤ 1050 := by
  have e1 : (1 : Int32).toInt = 1 := by decide
  obtain ⟨a1, a2⟩ := t_add (a := dp) (A := 1000) (by simp only [na]; omega) (RB_n hb (cix_ok (f_by (-x * dp) z)).2) (by decide)
  have b := RB_n hb (cix_ok (f_by (-x * dp) z)).2
  unfold f_far f_max
  simp only [na] at *
  by_cases q : 1 < dp + β (cix (f_by (-x * dp) z))
  · rw [if_pos q, a1]
    rw [Int32.lt_iff_toInt_lt, e1, a1] at q
    omega
  · rw [if_neg q, e1]; omega
theorem far_m {e : Int32} (h : 1 ≤ e) : f_max 1 e = e := by
  unfold f_max
  by_cases q : 1 < e
  · rw [if_pos q]
  · rw [if_neg q]
    rw [Int32.le_iff_toInt_le] at h
    rw [Int32.lt_iff_toInt_lt] at q
    exact Int32.toInt_inj.mp (by omega)
theorem far_1 {e : Int32} (h : ¬ 1 ≤ e) : f_max 1 e = 1 := by
  unfold f_max
  rw [if_neg]
  intro q
  apply h
  rw [Int32.le_iff_toInt_le]
  rw [Int32.lt_iff_toInt_lt] at q
  omega
theorem neg_div {a b : Int32} (ha : na a ≤ 2000000) : (-a) / b = -(a / b) := by
  obtain ⟨n1, n2⟩ := t_neg ha (by decide)
  obtain ⟨d1, d2⟩ := t_div (b := b) ha (by decide)
  obtain ⟨d3, d4⟩ := t_div (b := b) n2 (by decide)
  obtain ⟨m1, m2⟩ := t_neg d2 (by decide)
  apply Int32.toInt_inj.mp
  rw [d3, n1, m1, d1, Int.neg_tdiv]
theorem abs_le {v w : Int32} (hv : na v ≤ 2000000) (hw : 1 ≤ w.toInt) (hw2 : w.toInt ≤ 400) : f_abs v ≤ w ↔ f_in v (-w) w = true := by
  rw [in_iff, Int32.le_iff_toInt_le, t_abs hv (by decide), (t_neg (a := w) (A := 400) (by simp only [na]; omega) (by decide)).1]
  simp only [na]
  omega
theorem fz_ne {f z : Int32} (h0 : 0 ≤ f.toInt) (h1 : f.toInt ≤ 500) (hf : ¬ f = 0) (hz : 1 ≤ z.toInt) (hz2 : z.toInt ≤ 5000) : ¬ f * z = 0 := by
  intro e
  have hf1 : 1 ≤ f.toInt := by
    rcases Int.lt_or_le f.toInt 1 with q | q
    · exact absurd (Int32.toInt_inj.mp (show f.toInt = (0 : Int32).toInt by have : (0 : Int32).toInt = 0 := by decide
                                                                            omega)) hf
    · exact q
  have m := (t_mul (a := f) (b := z) (A := 500) (B := 5000) (by simp only [na]; omega) (by simp only [na]; omega) (by decide)).1
  rw [e, show (0 : Int32).toInt = 0 by decide] at m
  have := Int.mul_pos (show 0 < f.toInt by omega) (show 0 < z.toInt by omega)
  omega
/-- the model's numbers for thing t -/
def MT (M : Mm) (t : Nat) (ρ β : Nat → Int32) (x y z : Int32) : Prop := M.1 100 = ρ ∧ M.1 101 = β ∧ M.1 102 t = x ∧ M.1 103 t = y ∧ M.1 104 t = z ∧ RR ρ ∧ RB β ∧ RT x y z
theorem MT_s {M : Mm} {t : Nat} {ρ β : Nat → Int32} {x y z : Int32} {k j : Nat} {v : Int32} (hk : k < 100 ∨ 104 < k) (h : MT M t ρ β x y z) : MT (wi M k j v) t ρ β x y z := by
  obtain ⟨h1, h2, h3, h4, h5, h6⟩ := h
  refine ⟨?_, ?_, ?_, ?_, ?_, h6⟩
  · rw [← h1]; funext b; simp [wi, show ¬ 100 = k by omega]
  · rw [← h2]; funext b; simp [wi, show ¬ 101 = k by omega]
  · rw [← h3]; simp [wi, show ¬ 102 = k by omega]
  · rw [← h4]; simp [wi, show ¬ 103 = k by omega]
  · rw [← h5]; simp [wi, show ¬ 104 = k by omega]
theorem MT_o {M M1 : Mm} {t : Nat} {ρ β : Nat → Int32} {x y z : Int32} (e : ∀ k, 100 ≤ k → k ≤ 104 → M1.1 k = M.1 k) (h : MT M t ρ β x y z) : MT M1 t ρ β x y z := by
  obtain ⟨h1, h2, h3, h4, h5, h6⟩ := h
  exact ⟨by rw [e 100 (by decide) (by decide)]; exact h1, by rw [e 101 (by decide) (by decide)]; exact h2, by rw [e 102 (by decide) (by decide)]; exact h3, by rw [e 103 (by decide) (by decide)]; exact h4, by rw [e 104 (by decide) (by decide)]; exact h5, h6⟩
