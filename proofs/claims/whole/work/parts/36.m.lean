/-! THE MODEL: bent -/
theorem blur_n {ρ : Nat → Int32} (h6 : RR ρ) {e z : Int32} (e1 : 1 ≤ e.toInt) (e2 : e.toInt ≤ 1050) (z1 : 1 ≤ z.toInt) (z2 : z.toInt ≤ 5000) : 0 ≤ (f_blur ρ e z).toInt ∧ (f_blur ρ e z).toInt ≤ 83000000 := by
  obtain ⟨o1, o2⟩ := RR_1 h6
  obtain ⟨f1, f2⟩ := RR_0 h6
  have ho : na (ρ 1) ≤ 100 := by simp only [na]; omega
  unfold f_blur
  by_cases c : ρ 0 = 0
  · rw [if_pos c, by_ne (ne_0 z1)]
    have s := t_add (a := z) (b := e) (A := 5000) (B := 1050) (by simp only [na]; omega) (by simp only [na]; omega) (by decide)
    have m := t_mul ho s.2 (by decide)
    have d := t_div (b := z) m.2 (by decide)
    have n0 : 0 ≤ (ρ 1 * (z + e)).toInt := by rw [m.1, s.1]; exact Int.mul_nonneg (by omega) (by omega)
    rw [d.1]
    refine ⟨Int.tdiv_nonneg n0 (by omega), ?_⟩
    have := d.2
    simp only [na] at this
    rw [d.1] at this
    omega
  · rw [if_neg c]
    have f0 : 1 ≤ (ρ 0).toInt := by
      have : ¬ (ρ 0).toInt = 0 := fun q => c (Int32.toInt_inj.mp (by rw [q]; decide))
      omega
    rw [by_ne (fz_ne f1 f2 c z1 z2)]
    have hf : na (ρ 0) ≤ 500 := by simp only [na]; omega
    have hz : na z ≤ 5000 := by simp only [na]; omega
    have he : na e ≤ 1050 := by simp only [na]; omega
    have a1 := t_sub hz hf (by decide)
    have a2 := t_mul he a1.2 (by decide)
    have a3 := t_mul hf hz (by decide)
    have a4 := t_sub a2.2 a3.2 (by decide)
    have a5 := t_abs a4.2 (by decide)
    have a6 : na (f_abs (e * (z - ρ 0) - ρ 0 * z)) ≤ 8275000 := by
      have := a4.2
      rw [na, a5]; simp only [Int.natAbs_natCast]; exact Nat.le_trans this (by decide)
    have a7 := t_mul ho a6 (by decide)
    have n0 : 0 ≤ (ρ 1 * f_abs (e * (z - ρ 0) - ρ 0 * z)).toInt := by rw [a7.1, a5]; exact Int.mul_nonneg (by omega) (Int.natCast_nonneg _)
    have d := t_div (b := ρ 0 * z) a7.2 (by decide)
    have dp : 0 < (ρ 0 * z).toInt := by rw [a3.1]; exact Int.mul_pos (by omega) (by omega)
    rw [d.1]
    refine ⟨Int.tdiv_nonneg n0 (by omega), ?_⟩
    rw [Int.tdiv_eq_ediv_of_nonneg n0]
    refine Int.ediv_le_of_le_mul dp ?_
    by_cases s : z.toInt ≤ 9 ∧ (ρ 0).toInt ≤ 9
    · obtain ⟨s1, s2⟩ := s
      have b1 := t_sub (a := z) (b := ρ 0) (A := 9) (B := 9) (by simp only [na]; omega) (by simp only [na]; omega) (by decide)
      have b2 := t_mul he b1.2 (by decide)
      have b3 := t_mul (a := ρ 0) (b := z) (A := 9) (B := 9) (by simp only [na]; omega) (by simp only [na]; omega) (by decide)
      have b4 := t_sub b2.2 b3.2 (by decide)
      have b6 : na (f_abs (e * (z - ρ 0) - ρ 0 * z)) ≤ 18981 := by
        have := b4.2
        rw [na, a5]; simp only [Int.natAbs_natCast]; exact Nat.le_trans this (by decide)
      have b7 := (t_mul ho b6 (by decide)).2
      simp only [na] at b7
      omega
    · have d10 : 10 ≤ (ρ 0 * z).toInt := by
        rw [a3.1]
        rcases Int.lt_or_le 9 z.toInt with q | q
        · have := Int.mul_le_mul f0 (show 10 ≤ z.toInt by omega) (by omega) (by omega)
          omega
        · have := Int.mul_le_mul (show 10 ≤ (ρ 0).toInt by omega) z1 (by omega) (by omega)
          omega
      have b7 := a7.2
      simp only [na] at b7
      omega
theorem mx_n {ρ : Nat → Int32} (h6 : RR ρ) {t : Nat} (ht : t ≤ 100) : 1 ≤ (f_max 1 (ρ 2 + bd t)).toInt ∧ (f_max 1 (ρ 2 + bd t)).toInt ≤ 1050 := by
  obtain ⟨o1, o2⟩ := RR_2 h6
  have b := bd_toInt (t := t) (by omega)
  have s := t_add (a := ρ 2) (b := bd t) (A := 1000) (B := 50) (by simp only [na]; omega) (by simp only [na]; omega) (by decide)
  have e1 : (1 : Int32).toInt = 1 := by decide
  unfold f_max
  by_cases c : 1 < ρ 2 + bd t
  · rw [if_pos c]
    rw [Int32.lt_iff_toInt_lt, e1] at c
    rw [s.1] at c ⊢
    omega
  · rw [if_neg c, e1]; omega
/-- the blurs of N things, added: no sum is too great -/
def TK (N : Nat) (tx ty tz : Nat → Int32) : Prop := ∀ t, t < N → RT (tx t) (ty t) (tz t)
theorem blS_n {ρ tx ty tz : Nat → Int32} {N : Nat} (h6 : RR ρ) (hT : TK N tx ty tz) (hN : N ≤ 24) (c : Int32) {b : Nat} (hb : b ≤ 100) : ∀ i, i ≤ N → 0 ≤ (blS ρ tx tz c i b).toInt ∧ (blS ρ tx tz c i b).toInt ≤ 83000000 * (i : Int)
  | 0, _ => by simp [blS]
  | i + 1, h => by
    have k := blS_n h6 hT hN c hb i (by omega)
    obtain ⟨x1, x2, x3, x4⟩ := RT_x (hT i (by omega))
    have m := mx_n h6 hb
    have u := blur_n h6 m.1 m.2 x3 x4
    have e0 : (0 : Int32).toInt = 0 := by decide
    simp only [blS]
    by_cases q : f_colc (f_by (-(tx i) * ρ 2) (tz i)) = c
    · rw [if_pos q]
      have s := t_add (a := blS ρ tx tz c i b) (b := f_blur ρ (f_max 1 (ρ 2 + bd b)) (tz i)) (A := 83000000 * i) (B := 83000000) (by simp only [na]; omega) (by simp only [na]; omega) (by omega)
      rw [s.1]
      omega
    · rw [if_neg q]; omega
theorem w_add {a b : Int32} {A B : Nat} (ha : na a ≤ A) (hb : na b ≤ B) (h : A + B < 2147483648) : a.toInt64 + b.toInt64 = (a + b).toInt64 := by
  apply Int64.toInt_inj.mp
  rw [Int32.toInt_toInt64, (t_add ha hb h).1, Int64.toInt_add, Int32.toInt_toInt64, Int32.toInt_toInt64]
  simp only [na] at ha hb
  exact Int.bmod_eq_of_le (by omega) (by omega)
theorem bl_y {ρ tx ty tz : Nat → Int32} {N : Nat} (h6 : RR ρ) (hT : TK N tx ty tz) (hN : N ≤ 24) {c : Int32} {b i : Nat} (hb : b ≤ 100) (hi : i < N) (q : f_colc (f_by (-(tx i) * ρ 2) (tz i)) = c) : (blS ρ tx tz c i b).toInt64 + (f_blur ρ (f_max 1 (ρ 2 + bd b)) (tz i)).toInt64 = (blS ρ tx tz c (i + 1) b).toInt64 := by
  have k := blS_n h6 hT hN c hb i (by omega)
  obtain ⟨x1, x2, x3, x4⟩ := RT_x (hT i hi)
  have m := mx_n h6 hb
  have u := blur_n h6 m.1 m.2 x3 x4
  rw [w_add (A := 83000000 * i) (B := 83000000) (by simp only [na]; omega) (by simp only [na]; omega) (by omega)]
  simp only [blS]
  rw [if_pos q]
theorem bl_n {ρ tx tz : Nat → Int32} {c : Int32} {b i : Nat} (q : ¬ f_colc (f_by (-(tx i) * ρ 2) (tz i)) = c) : (blS ρ tx tz c i b).toInt64 + 0 = (blS ρ tx tz c (i + 1) b).toInt64 := by
  simp only [blS]
  rw [if_neg q, Int64.add_zero]
/-- the bends, from 0 outwards -/
def bpos (k : Nat) : Nat := if k % 2 = 1 then 50 - (k + 1) / 2 else 50 + k / 2
theorem bpos_le {k : Nat} (h : k ≤ 100) : bpos k ≤ 100 := by unfold bpos; split <;> omega
theorem rem2 {k : Nat} (h : k < 1000) : nI k - nI k / 2 * 2 = nI (k % 2) := by
  rw [show (2 : Int32) = nI 2 from rfl, pk_div (a := k) (d := 2) (by omega) (by decide) (by decide), pk_mul, pk_sub (by omega)]
  congr 1
  omega
theorem bp_o : ∀ k, k < 101 → k % 2 = 1 → -(nI k + 1) / 2 = bd (bpos k) := by decide +kernel
theorem bp_e : ∀ k, k < 101 → ¬ k % 2 = 1 → nI k / 2 = bd (bpos k) := by decide +kernel
def bk (f : Nat → Int32) : Nat → Nat
  | 0 => 50
  | k + 1 => if f (bpos k) < f (bk f k) then bpos k else bk f k
theorem bk_le (f : Nat → Int32) : ∀ k, k ≤ 101 → bk f k ≤ 100
  | 0, _ => by simp [bk]
  | k + 1, h => by
    simp only [bk]
    split
    · exact bpos_le (by omega)
    · exact bk_le f k (by omega)
theorem bk_bb (f : Nat → Int32) : ∀ s, bk f (2 * s + 1) = bb f s
  | 0 => by simp [bk, bb, bpos]
  | s + 1 => by
    have p1 : bpos (2 * s + 1) = 50 - (s + 1) := by unfold bpos; rw [if_pos (by omega)]; omega
    have p2 : bpos (2 * s + 1 + 1) = 50 + (s + 1) := by unfold bpos; rw [if_neg (by omega)]; omega
    show bk f (2 * s + 1 + 1 + 1) = _
    have e1 : bk f (2 * s + 1 + 1) = bb1 f s (bb f s) := by
      show (if f (bpos (2 * s + 1)) < f (bk f (2 * s + 1)) then bpos (2 * s + 1) else bk f (2 * s + 1)) = _
      rw [p1, bk_bb f s]
      unfold bb1
      by_cases q : f (50 - (s + 1)) < f (bb f s)
      · rw [if_pos q, if_neg (Int32.not_le.mpr q)]
      · rw [if_neg q, if_pos (Int32.not_lt.mp q)]
    show (if f (bpos (2 * s + 1 + 1)) < f (bk f (2 * s + 1 + 1)) then bpos (2 * s + 1 + 1) else bk f (2 * s + 1 + 1)) = (if f (bb1 f s (bb f s)) ≤ f (50 + (s + 1)) then bb1 f s (bb f s) else 50 + (s + 1))
    rw [p2, e1]
    by_cases q : f (50 + (s + 1)) < f (bb1 f s (bb f s))
    · rw [if_pos q, if_neg (Int32.not_le.mpr q)]
    · rw [if_neg q, if_pos (Int32.not_lt.mp q)]
def ml (f : Nat → Int32) (k : Nat) : Int64 := if k = 0 then -1 else (f (bk f k)).toInt64
theorem lt64 {a b : Int32} : a.toInt64 < b.toInt64 ↔ a < b := by rw [Int64.lt_iff_toInt_lt, Int32.lt_iff_toInt_lt, Int32.toInt_toInt64, Int32.toInt_toInt64]
theorem ml_neg {f : Nat → Int32} {k : Nat} (hk : ¬ k = 0) (h : 0 ≤ (f (bk f k)).toInt) : ¬ ml f k < 0 := by
  unfold ml
  rw [if_neg hk, Int64.lt_iff_toInt_lt, Int32.toInt_toInt64, show (0 : Int64).toInt = 0 by decide]
  omega
theorem bk_0 {f : Nat → Int32} {k : Nat} (hk : k = 0) : bpos k = bk f (k + 1) ∧ (f (bpos k)).toInt64 = ml f (k + 1) := by
  subst hk
  have e : bk f (0 + 1) = 50 := by simp [bk, bpos]
  refine ⟨by rw [e]; rfl, ?_⟩
  unfold ml
  rw [if_neg (by omega), e]; rfl
theorem bk_y {f : Nat → Int32} {k : Nat} (hk : ¬ k = 0) (c : (f (bpos k)).toInt64 < ml f k) : bpos k = bk f (k + 1) ∧ (f (bpos k)).toInt64 = ml f (k + 1) := by
  unfold ml at c
  rw [if_neg hk, lt64] at c
  have e : bk f (k + 1) = bpos k := if_pos c
  refine ⟨e.symm, ?_⟩
  unfold ml
  rw [if_neg (by omega), e]
theorem bk_n {f : Nat → Int32} {k : Nat} (hk : ¬ k = 0) (c : ¬ (f (bpos k)).toInt64 < ml f k) : bk f k = bk f (k + 1) ∧ ml f k = ml f (k + 1) := by
  have c2 := c
  unfold ml at c2
  rw [if_neg hk, lt64] at c2
  have e : bk f (k + 1) = bk f k := if_neg c2
  refine ⟨e.symm, ?_⟩
  unfold ml
  rw [if_neg hk, if_neg (by omega), e]
theorem fmx_1 {a : Int32} (h : 1 ≤ a) : a = f_max 1 a := (far_m h).symm
theorem fmx_2 {a : Int32} (h : ¬ 1 ≤ a) : 1 = f_max 1 a := (far_1 h).symm
set_option maxHeartbeats 4000000 in
set_option maxRecDepth 100000 in
theorem l_mbent3 {X : Ctx} {V : Vx} {Q : State → Prop} (C : Cx X V mX12_bent 2) (M : Mm) {N : Nat} {ρ β tx ty tz : Nat → Int32} (hA : MA M N ρ β tx ty tz) (hR : RR ρ) (hT : TK N tx ty tz) (c nv kv sv : Int32) (lv : Int64) {b : Nat} (hb : b ≤ 100) (kk : AW X V mX12_bent.2.2.1 T0 M 0 0 Q 140 [(11, .int (nI N)), (9, .long ((blS ρ tx tz c N b).toInt64)), (8, .int (f_max 1 (ρ 2 + bd b))), (7, .int (bd b)), (6, .int kv), (4, .long lv), (3, .int sv), (1, .int nv), (2, .int c), (0, .ref 96)] []) : ∀ (m : Nat) (t : Nat), t ≤ N → N - t < m → AW X V mX12_bent.2.2.1 T0 (M) 0 0 Q 91 [(11, .int (nI t)), (9, .long ((blS ρ tx tz c t b).toInt64)), (8, .int (f_max 1 (ρ 2 + bd b))), (7, .int (bd b)), (6, .int kv), (4, .long lv), (3, .int sv), (1, .int nv), (2, .int c), (0, .ref 96)] [] := by
  intro m
  induction m with
  | zero => intro t _ h; exact absurd h (Nat.not_lt_zero _)
  | succ m ih =>
    intro t ht0 hmz
    have hN24 := hA.2.1
    refine ar_iload (n := 0) C dX12_bent_91 rfl ?_
    refine ar_aload_n (n := 9) C dX12_bent_93 rfl rfl ?_
    refine ar_geti C flX12_102 kd_96 dX12_bent_94 ?_
    refine ar_topi (nI N) hA.1 ?_
    refine ar_icmp_ge (tgt := 140) C dX12_bent_97 (by decide) (fun c_1 => ?_) (fun c_1 => ?_)
    · have hk : t = N := Nat.le_antisymm ht0 (nat_le c_1 (by omega) (by omega))
      subst hk
      exact kk
    · have htN : t < N := nat_nle c_1 (by omega) (by omega)
      have ht : t < 24 := by omega
      have h := hA.2.2 t htN
      have e1 := h.1
      refine ar_lload (n := 1) C dX12_bent_100 rfl ?_
      refine ar_aload_n (n := 9) C dX12_bent_102 rfl rfl ?_
      refine ar_iload (n := 0) C dX12_bent_103 rfl ?_
      refine ar_aload_n (n := 9) C dX12_bent_105 rfl rfl ?_
      refine ar_getr C flX12_19 rfl kd_96 rf_96_5 dX12_bent_106 ?_
      refine ar_iconst (v := 2) C dX12_bent_109 (by decide) ?_
      refine ar_iald (j := 2) C kd_100 (by decide) (by decide) dX12_bent_110 ?_
      refine ar_topi (ρ 2) (congrFun e1 2) ?_
      refine cV1 (ar := [.int (nI t), .int (ρ 2)]) (st := [.long ((blS ρ tx tz c t b).toInt64)]) C lkX12_117 kd_96 (m_columnOf M (t := t) ht h (ρ 2) (by have := RR_2 hR; simp only [na]; omega)) (by decide) rfl (Nat.le_of_ble_eq_true rfl) rfl dX12_bent_111 ?_
      refine ar_iload_n (n := 8) C dX12_bent_114 rfl rfl ?_
      refine ar_icmp_ne (tgt := 130) C dX12_bent_115 (by decide) (fun c_2 => ?_) (fun c_2 => ?_)
      · refine ar_lconst (v := 0) C dX12_bent_130 (by decide) ?_
        refine ar_ladd C dX12_bent_131 ?_
        refine ar_topl ((blS ρ tx tz c (t + 1) b).toInt64) (bl_n c_2) ?_
        refine ar_lstore (als' := [(9, .long ((blS ρ tx tz c (t + 1) b).toInt64)), (11, .int (nI t)), (8, .int (f_max 1 (ρ 2 + bd b))), (7, .int (bd b)), (6, .int kv), (4, .long lv), (3, .int sv), (1, .int nv), (2, .int c), (0, .ref 96)]) C dX12_bent_132 (by decide) rfl ?_
        refine ar_iinc (n := 1) (v := (nI (t + 1))) (als' := [(11, .int (nI (t + 1))), (9, .long ((blS ρ tx tz c (t + 1) b).toInt64)), (8, .int (f_max 1 (ρ 2 + bd b))), (7, .int (bd b)), (6, .int kv), (4, .long lv), (3, .int sv), (1, .int nv), (2, .int c), (0, .ref 96)]) C dX12_bent_134 rfl (nI_1 _) (by decide) rfl ?_
        refine ar_goto (tgt := 91) C dX12_bent_137 (by decide) ?_
        exact ih (t + 1) (by omega) (by omega)
      · refine ar_aload_n (n := 9) C dX12_bent_118 rfl rfl ?_
        refine ar_iload (n := 0) C dX12_bent_119 rfl ?_
        refine ar_iload (n := 2) C dX12_bent_121 rfl ?_
        refine cV1 (ar := [.int (nI t), .int (f_max 1 (ρ 2 + bd b))]) (st := [.long ((blS ρ tx tz c t b).toInt64)]) C lkX12_126 kd_96 (m_blurBy M (t := t) ht h (f_max 1 (ρ 2 + bd b))) (by decide) rfl (Nat.le_of_ble_eq_true rfl) rfl dX12_bent_123 ?_
        refine ar_i2l C dX12_bent_126 ?_
        refine ar_goto (tgt := 131) C dX12_bent_127 (by decide) ?_
        refine ar_ladd C dX12_bent_131 ?_
        refine ar_topl ((blS ρ tx tz c (t + 1) b).toInt64) (bl_y hR hT hN24 hb htN c_2) ?_
        refine ar_lstore (als' := [(9, .long ((blS ρ tx tz c (t + 1) b).toInt64)), (11, .int (nI t)), (8, .int (f_max 1 (ρ 2 + bd b))), (7, .int (bd b)), (6, .int kv), (4, .long lv), (3, .int sv), (1, .int nv), (2, .int c), (0, .ref 96)]) C dX12_bent_132 (by decide) rfl ?_
        refine ar_iinc (n := 1) (v := (nI (t + 1))) (als' := [(11, .int (nI (t + 1))), (9, .long ((blS ρ tx tz c (t + 1) b).toInt64)), (8, .int (f_max 1 (ρ 2 + bd b))), (7, .int (bd b)), (6, .int kv), (4, .long lv), (3, .int sv), (1, .int nv), (2, .int c), (0, .ref 96)]) C dX12_bent_134 rfl (nI_1 _) (by decide) rfl ?_
        refine ar_goto (tgt := 91) C dX12_bent_137 (by decide) ?_
        exact ih (t + 1) (by omega) (by omega)
set_option maxHeartbeats 4000000 in
set_option maxRecDepth 100000 in
theorem l_mbent2 {X : Ctx} {V : Vx} {Q : State → Prop} (C : Cx X V mX12_bent 2) (M : Mm) {N : Nat} {ρ β tx ty tz : Nat → Int32} (hA : MA M N ρ β tx ty tz) (hR : RR ρ) (hT : TK N tx ty tz) (hρ : M.1 100 = ρ) (c nv : Int32) (kk : AW X V mX12_bent.2.2.1 T0 M 0 0 Q 168 [(6, .int (nI 101)), (4, .long (ml (blS ρ tx tz c N) 101)), (3, .int (bd (bk (blS ρ tx tz c N) 101))), (1, .int nv), (2, .int c), (0, .ref 96)] []) : ∀ (m : Nat) (k : Nat), k ≤ 101 → 101 - k < m → AW X V mX12_bent.2.2.1 T0 (M) 0 0 Q 26 [(6, .int (nI k)), (4, .long (ml (blS ρ tx tz c N) k)), (3, .int (bd (bk (blS ρ tx tz c N) k))), (1, .int nv), (2, .int c), (0, .ref 96)] [] := by
  intro m
  induction m with
  | zero => intro k _ h; exact absurd h (Nat.not_lt_zero _)
  | succ m ih =>
    intro k hk0 hmz
    have hN24 := hA.2.1
    refine ar_iload (n := 0) C dX12_bent_26 rfl ?_
    refine ar_bipush (v := 101) C dX12_bent_28 (by decide) ?_
    refine ar_icmp_ge (tgt := 168) C dX12_bent_30 (by decide) (fun c_1 => ?_) (fun c_1 => ?_)
    · have hk : k = 101 := Nat.le_antisymm hk0 (nat_le (a := 101) c_1 (by decide) (by omega))
      subst hk
      exact kk
    · have hk : k < 101 := nat_nle (a := 101) c_1 (by decide) (by omega)
      by_cases hk2 : k % 2 = 1
      · refine ar_iload (n := 0) C dX12_bent_33 rfl ?_
        refine ar_iconst (v := 2) C dX12_bent_35 (by decide) ?_
        refine ar_irem C dX12_bent_36 (by decide) ?_
        refine ar_topi (nI (k % 2)) (rem2 (by omega)) ?_
        refine ar_iconst (v := 1) C dX12_bent_37 (by decide) ?_
        refine ar_icmp_ne (tgt := 51) C dX12_bent_38 (by decide) (fun c_2 => False.elim (c_2 (by rw [hk2]; rfl))) (fun _ => ?_)
        refine ar_iload (n := 0) C dX12_bent_41 rfl ?_
        refine ar_iconst (v := 1) C dX12_bent_43 (by decide) ?_
        refine ar_iadd C dX12_bent_44 ?_
        refine ar_ineg C dX12_bent_45 ?_
        refine ar_iconst (v := 2) C dX12_bent_46 (by decide) ?_
        refine ar_idiv C dX12_bent_47 (by decide) ?_
        refine ar_goto (tgt := 55) C dX12_bent_48 (by decide) ?_
        refine ar_topi (bd (bpos k)) (bp_o k hk hk2) ?_
        refine ar_istore (als' := [(7, .int (bd (bpos k))), (6, .int (nI k)), (4, .long (ml (blS ρ tx tz c N) k)), (3, .int (bd (bk (blS ρ tx tz c N) k))), (1, .int nv), (2, .int c), (0, .ref 96)]) C dX12_bent_55 (by decide) rfl ?_
        refine ar_aload_n (n := 6) C dX12_bent_57 rfl rfl ?_
        refine ar_getr C flX12_19 rfl kd_96 rf_96_5 dX12_bent_58 ?_
        refine ar_iconst (v := 2) C dX12_bent_61 (by decide) ?_
        refine ar_iald (j := 2) C kd_100 (by decide) (by decide) dX12_bent_62 ?_
        refine ar_topi (ρ 2) (congrFun hρ 2) ?_
        refine ar_iload (n := 0) C dX12_bent_63 rfl ?_
        refine ar_iadd C dX12_bent_65 ?_
        refine ar_iconst (v := 1) C dX12_bent_66 (by decide) ?_
        refine ar_icmp_ge (tgt := 74) C dX12_bent_67 (by decide) (fun c_3 => ?_) (fun c_3 => ?_)
        · refine ar_aload_n (n := 6) C dX12_bent_74 rfl rfl ?_
          refine ar_getr C flX12_19 rfl kd_96 rf_96_5 dX12_bent_75 ?_
          refine ar_iconst (v := 2) C dX12_bent_78 (by decide) ?_
          refine ar_iald (j := 2) C kd_100 (by decide) (by decide) dX12_bent_79 ?_
          refine ar_topi (ρ 2) (congrFun hρ 2) ?_
          refine ar_iload (n := 0) C dX12_bent_80 rfl ?_
          refine ar_iadd C dX12_bent_82 ?_
          refine ar_topi (f_max 1 (ρ 2 + bd (bpos k))) (fmx_1 c_3) ?_
          refine ar_istore (als' := [(8, .int (f_max 1 (ρ 2 + bd (bpos k)))), (7, .int (bd (bpos k))), (6, .int (nI k)), (4, .long (ml (blS ρ tx tz c N) k)), (3, .int (bd (bk (blS ρ tx tz c N) k))), (1, .int nv), (2, .int c), (0, .ref 96)]) C dX12_bent_83 (by decide) rfl ?_
          refine ar_lconst (v := 0) C dX12_bent_85 (by decide) ?_
          refine ar_lstore (als' := [(9, .long 0), (8, .int (f_max 1 (ρ 2 + bd (bpos k)))), (7, .int (bd (bpos k))), (6, .int (nI k)), (4, .long (ml (blS ρ tx tz c N) k)), (3, .int (bd (bk (blS ρ tx tz c N) k))), (1, .int nv), (2, .int c), (0, .ref 96)]) C dX12_bent_86 (by decide) rfl ?_
          refine ar_iconst (v := 0) C dX12_bent_88 (by decide) ?_
          refine ar_istore (als' := [(11, .int 0), (9, .long 0), (8, .int (f_max 1 (ρ 2 + bd (bpos k)))), (7, .int (bd (bpos k))), (6, .int (nI k)), (4, .long (ml (blS ρ tx tz c N) k)), (3, .int (bd (bk (blS ρ tx tz c N) k))), (1, .int nv), (2, .int c), (0, .ref 96)]) C dX12_bent_89 (by decide) rfl ?_
          refine l_mbent3 C M hA hR hT c nv _ _ _ (b := bpos k) (bpos_le (by omega)) ?_ (N + 1) 0 (by omega) (by omega)
          by_cases hk1 : k = 0
          · refine ar_lload (n := 5) C dX12_bent_140 rfl ?_
            refine ar_lconst (v := 0) C dX12_bent_142 (by decide) ?_
            refine ar_lc_lt (tgt := 155) C dX12_bent_143 dX12_bent_144 (by decide) (fun _ => ?_) (fun c_4 => False.elim (c_4 (by rw [hk1, show ml (blS ρ tx tz c N) 0 = -1 from rfl]; decide)))
            refine ar_lload (n := 1) C dX12_bent_155 rfl ?_
            refine ar_lstore (als' := [(4, .long (((blS ρ tx tz c N) (bpos k)).toInt64)), (11, .int (nI N)), (9, .long (((blS ρ tx tz c N) (bpos k)).toInt64)), (8, .int (f_max 1 (ρ 2 + bd (bpos k)))), (7, .int (bd (bpos k))), (6, .int (nI k)), (3, .int (bd (bk (blS ρ tx tz c N) k))), (1, .int nv), (2, .int c), (0, .ref 96)]) C dX12_bent_157 (by decide) rfl ?_
            refine ar_iload (n := 4) C dX12_bent_159 rfl ?_
            refine ar_istore_n (als' := [(3, .int (bd (bpos k))), (4, .long (((blS ρ tx tz c N) (bpos k)).toInt64)), (11, .int (nI N)), (9, .long (((blS ρ tx tz c N) (bpos k)).toInt64)), (8, .int (f_max 1 (ρ 2 + bd (bpos k)))), (7, .int (bd (bpos k))), (6, .int (nI k)), (1, .int nv), (2, .int c), (0, .ref 96)]) C dX12_bent_161 rfl (by decide) rfl ?_
            refine ar_iinc (n := 6) (v := (nI (k + 1))) (als' := [(6, .int (nI (k + 1))), (3, .int (bd (bpos k))), (4, .long (((blS ρ tx tz c N) (bpos k)).toInt64)), (11, .int (nI N)), (9, .long (((blS ρ tx tz c N) (bpos k)).toInt64)), (8, .int (f_max 1 (ρ 2 + bd (bpos k)))), (7, .int (bd (bpos k))), (1, .int nv), (2, .int c), (0, .ref 96)]) C dX12_bent_162 rfl (nI_1 _) (by decide) rfl ?_
            refine ar_goto (tgt := 26) C dX12_bent_165 (by decide) ?_
            refine ar_sub [0, 2, 1, 7, 8, 9] rfl ?_
            obtain ⟨q1, q2⟩ := bk_0 (f := (blS ρ tx tz c N)) (k := k) hk1
            have h9 := ih (k + 1) (by omega) (by omega)
            rw [← q1, ← q2] at h9
            exact h9
          · refine ar_lload (n := 5) C dX12_bent_140 rfl ?_
            refine ar_lconst (v := 0) C dX12_bent_142 (by decide) ?_
            refine ar_lc_lt (tgt := 155) C dX12_bent_143 dX12_bent_144 (by decide) (fun c_5 => False.elim (ml_neg hk1 (blS_n hR hT hN24 c (bk_le (blS ρ tx tz c N) k (by omega)) N (Nat.le_refl _)).1 c_5)) (fun _ => ?_)
            refine ar_lload (n := 1) C dX12_bent_147 rfl ?_
            refine ar_lload (n := 5) C dX12_bent_149 rfl ?_
            refine ar_lc_ge (tgt := 162) C dX12_bent_151 dX12_bent_152 (by decide) (fun c_6 => ?_) (fun c_6 => ?_)
            · refine ar_iinc (n := 4) (v := (nI (k + 1))) (als' := [(6, .int (nI (k + 1))), (11, .int (nI N)), (9, .long (((blS ρ tx tz c N) (bpos k)).toInt64)), (8, .int (f_max 1 (ρ 2 + bd (bpos k)))), (7, .int (bd (bpos k))), (4, .long (ml (blS ρ tx tz c N) k)), (3, .int (bd (bk (blS ρ tx tz c N) k))), (1, .int nv), (2, .int c), (0, .ref 96)]) C dX12_bent_162 rfl (nI_1 _) (by decide) rfl ?_
              refine ar_goto (tgt := 26) C dX12_bent_165 (by decide) ?_
              refine ar_sub [0, 5, 6, 7, 8, 9] rfl ?_
              obtain ⟨q1, q2⟩ := bk_n (f := (blS ρ tx tz c N)) (k := k) hk1 c_6
              have h9 := ih (k + 1) (by omega) (by omega)
              rw [← q1, ← q2] at h9
              exact h9
            · refine ar_lload (n := 1) C dX12_bent_155 rfl ?_
              refine ar_lstore (als' := [(4, .long (((blS ρ tx tz c N) (bpos k)).toInt64)), (11, .int (nI N)), (9, .long (((blS ρ tx tz c N) (bpos k)).toInt64)), (8, .int (f_max 1 (ρ 2 + bd (bpos k)))), (7, .int (bd (bpos k))), (6, .int (nI k)), (3, .int (bd (bk (blS ρ tx tz c N) k))), (1, .int nv), (2, .int c), (0, .ref 96)]) C dX12_bent_157 (by decide) rfl ?_
              refine ar_iload (n := 4) C dX12_bent_159 rfl ?_
              refine ar_istore_n (als' := [(3, .int (bd (bpos k))), (4, .long (((blS ρ tx tz c N) (bpos k)).toInt64)), (11, .int (nI N)), (9, .long (((blS ρ tx tz c N) (bpos k)).toInt64)), (8, .int (f_max 1 (ρ 2 + bd (bpos k)))), (7, .int (bd (bpos k))), (6, .int (nI k)), (1, .int nv), (2, .int c), (0, .ref 96)]) C dX12_bent_161 rfl (by decide) rfl ?_
              refine ar_iinc (n := 6) (v := (nI (k + 1))) (als' := [(6, .int (nI (k + 1))), (3, .int (bd (bpos k))), (4, .long (((blS ρ tx tz c N) (bpos k)).toInt64)), (11, .int (nI N)), (9, .long (((blS ρ tx tz c N) (bpos k)).toInt64)), (8, .int (f_max 1 (ρ 2 + bd (bpos k)))), (7, .int (bd (bpos k))), (1, .int nv), (2, .int c), (0, .ref 96)]) C dX12_bent_162 rfl (nI_1 _) (by decide) rfl ?_
              refine ar_goto (tgt := 26) C dX12_bent_165 (by decide) ?_
              refine ar_sub [0, 2, 1, 7, 8, 9] rfl ?_
              obtain ⟨q1, q2⟩ := bk_y (f := (blS ρ tx tz c N)) (k := k) hk1 c_6
              have h9 := ih (k + 1) (by omega) (by omega)
              rw [← q1, ← q2] at h9
              exact h9
        · refine ar_iconst (v := 1) C dX12_bent_70 (by decide) ?_
          refine ar_goto (tgt := 83) C dX12_bent_71 (by decide) ?_
          refine ar_topi (f_max 1 (ρ 2 + bd (bpos k))) (fmx_2 c_3) ?_
          refine ar_istore (als' := [(8, .int (f_max 1 (ρ 2 + bd (bpos k)))), (7, .int (bd (bpos k))), (6, .int (nI k)), (4, .long (ml (blS ρ tx tz c N) k)), (3, .int (bd (bk (blS ρ tx tz c N) k))), (1, .int nv), (2, .int c), (0, .ref 96)]) C dX12_bent_83 (by decide) rfl ?_
          refine ar_lconst (v := 0) C dX12_bent_85 (by decide) ?_
          refine ar_lstore (als' := [(9, .long 0), (8, .int (f_max 1 (ρ 2 + bd (bpos k)))), (7, .int (bd (bpos k))), (6, .int (nI k)), (4, .long (ml (blS ρ tx tz c N) k)), (3, .int (bd (bk (blS ρ tx tz c N) k))), (1, .int nv), (2, .int c), (0, .ref 96)]) C dX12_bent_86 (by decide) rfl ?_
          refine ar_iconst (v := 0) C dX12_bent_88 (by decide) ?_
          refine ar_istore (als' := [(11, .int 0), (9, .long 0), (8, .int (f_max 1 (ρ 2 + bd (bpos k)))), (7, .int (bd (bpos k))), (6, .int (nI k)), (4, .long (ml (blS ρ tx tz c N) k)), (3, .int (bd (bk (blS ρ tx tz c N) k))), (1, .int nv), (2, .int c), (0, .ref 96)]) C dX12_bent_89 (by decide) rfl ?_
          refine l_mbent3 C M hA hR hT c nv _ _ _ (b := bpos k) (bpos_le (by omega)) ?_ (N + 1) 0 (by omega) (by omega)
          by_cases hk1 : k = 0
          · refine ar_lload (n := 5) C dX12_bent_140 rfl ?_
            refine ar_lconst (v := 0) C dX12_bent_142 (by decide) ?_
            refine ar_lc_lt (tgt := 155) C dX12_bent_143 dX12_bent_144 (by decide) (fun _ => ?_) (fun c_7 => False.elim (c_7 (by rw [hk1, show ml (blS ρ tx tz c N) 0 = -1 from rfl]; decide)))
            refine ar_lload (n := 1) C dX12_bent_155 rfl ?_
            refine ar_lstore (als' := [(4, .long (((blS ρ tx tz c N) (bpos k)).toInt64)), (11, .int (nI N)), (9, .long (((blS ρ tx tz c N) (bpos k)).toInt64)), (8, .int (f_max 1 (ρ 2 + bd (bpos k)))), (7, .int (bd (bpos k))), (6, .int (nI k)), (3, .int (bd (bk (blS ρ tx tz c N) k))), (1, .int nv), (2, .int c), (0, .ref 96)]) C dX12_bent_157 (by decide) rfl ?_
            refine ar_iload (n := 4) C dX12_bent_159 rfl ?_
            refine ar_istore_n (als' := [(3, .int (bd (bpos k))), (4, .long (((blS ρ tx tz c N) (bpos k)).toInt64)), (11, .int (nI N)), (9, .long (((blS ρ tx tz c N) (bpos k)).toInt64)), (8, .int (f_max 1 (ρ 2 + bd (bpos k)))), (7, .int (bd (bpos k))), (6, .int (nI k)), (1, .int nv), (2, .int c), (0, .ref 96)]) C dX12_bent_161 rfl (by decide) rfl ?_
            refine ar_iinc (n := 6) (v := (nI (k + 1))) (als' := [(6, .int (nI (k + 1))), (3, .int (bd (bpos k))), (4, .long (((blS ρ tx tz c N) (bpos k)).toInt64)), (11, .int (nI N)), (9, .long (((blS ρ tx tz c N) (bpos k)).toInt64)), (8, .int (f_max 1 (ρ 2 + bd (bpos k)))), (7, .int (bd (bpos k))), (1, .int nv), (2, .int c), (0, .ref 96)]) C dX12_bent_162 rfl (nI_1 _) (by decide) rfl ?_
            refine ar_goto (tgt := 26) C dX12_bent_165 (by decide) ?_
            refine ar_sub [0, 2, 1, 7, 8, 9] rfl ?_
            obtain ⟨q1, q2⟩ := bk_0 (f := (blS ρ tx tz c N)) (k := k) hk1
            have h9 := ih (k + 1) (by omega) (by omega)
            rw [← q1, ← q2] at h9
            exact h9
          · refine ar_lload (n := 5) C dX12_bent_140 rfl ?_
            refine ar_lconst (v := 0) C dX12_bent_142 (by decide) ?_
            refine ar_lc_lt (tgt := 155) C dX12_bent_143 dX12_bent_144 (by decide) (fun c_8 => False.elim (ml_neg hk1 (blS_n hR hT hN24 c (bk_le (blS ρ tx tz c N) k (by omega)) N (Nat.le_refl _)).1 c_8)) (fun _ => ?_)
            refine ar_lload (n := 1) C dX12_bent_147 rfl ?_
            refine ar_lload (n := 5) C dX12_bent_149 rfl ?_
            refine ar_lc_ge (tgt := 162) C dX12_bent_151 dX12_bent_152 (by decide) (fun c_9 => ?_) (fun c_9 => ?_)
            · refine ar_iinc (n := 4) (v := (nI (k + 1))) (als' := [(6, .int (nI (k + 1))), (11, .int (nI N)), (9, .long (((blS ρ tx tz c N) (bpos k)).toInt64)), (8, .int (f_max 1 (ρ 2 + bd (bpos k)))), (7, .int (bd (bpos k))), (4, .long (ml (blS ρ tx tz c N) k)), (3, .int (bd (bk (blS ρ tx tz c N) k))), (1, .int nv), (2, .int c), (0, .ref 96)]) C dX12_bent_162 rfl (nI_1 _) (by decide) rfl ?_
              refine ar_goto (tgt := 26) C dX12_bent_165 (by decide) ?_
              refine ar_sub [0, 5, 6, 7, 8, 9] rfl ?_
              obtain ⟨q1, q2⟩ := bk_n (f := (blS ρ tx tz c N)) (k := k) hk1 c_9
              have h9 := ih (k + 1) (by omega) (by omega)
              rw [← q1, ← q2] at h9
              exact h9
            · refine ar_lload (n := 1) C dX12_bent_155 rfl ?_
              refine ar_lstore (als' := [(4, .long (((blS ρ tx tz c N) (bpos k)).toInt64)), (11, .int (nI N)), (9, .long (((blS ρ tx tz c N) (bpos k)).toInt64)), (8, .int (f_max 1 (ρ 2 + bd (bpos k)))), (7, .int (bd (bpos k))), (6, .int (nI k)), (3, .int (bd (bk (blS ρ tx tz c N) k))), (1, .int nv), (2, .int c), (0, .ref 96)]) C dX12_bent_157 (by decide) rfl ?_
              refine ar_iload (n := 4) C dX12_bent_159 rfl ?_
              refine ar_istore_n (als' := [(3, .int (bd (bpos k))), (4, .long (((blS ρ tx tz c N) (bpos k)).toInt64)), (11, .int (nI N)), (9, .long (((blS ρ tx tz c N) (bpos k)).toInt64)), (8, .int (f_max 1 (ρ 2 + bd (bpos k)))), (7, .int (bd (bpos k))), (6, .int (nI k)), (1, .int nv), (2, .int c), (0, .ref 96)]) C dX12_bent_161 rfl (by decide) rfl ?_
              refine ar_iinc (n := 6) (v := (nI (k + 1))) (als' := [(6, .int (nI (k + 1))), (3, .int (bd (bpos k))), (4, .long (((blS ρ tx tz c N) (bpos k)).toInt64)), (11, .int (nI N)), (9, .long (((blS ρ tx tz c N) (bpos k)).toInt64)), (8, .int (f_max 1 (ρ 2 + bd (bpos k)))), (7, .int (bd (bpos k))), (1, .int nv), (2, .int c), (0, .ref 96)]) C dX12_bent_162 rfl (nI_1 _) (by decide) rfl ?_
              refine ar_goto (tgt := 26) C dX12_bent_165 (by decide) ?_
              refine ar_sub [0, 2, 1, 7, 8, 9] rfl ?_
              obtain ⟨q1, q2⟩ := bk_y (f := (blS ρ tx tz c N)) (k := k) hk1 c_9
              have h9 := ih (k + 1) (by omega) (by omega)
              rw [← q1, ← q2] at h9
              exact h9
      · refine ar_iload (n := 0) C dX12_bent_33 rfl ?_
        refine ar_iconst (v := 2) C dX12_bent_35 (by decide) ?_
        refine ar_irem C dX12_bent_36 (by decide) ?_
        refine ar_topi (nI (k % 2)) (rem2 (by omega)) ?_
        refine ar_iconst (v := 1) C dX12_bent_37 (by decide) ?_
        refine ar_icmp_ne (tgt := 51) C dX12_bent_38 (by decide) (fun _ => ?_) (fun c_10 => False.elim (hk2 ((nI_eq (a := k % 2) (b := 1) (by omega) (by decide)).mp c_10)))
        refine ar_iload (n := 0) C dX12_bent_51 rfl ?_
        refine ar_iconst (v := 2) C dX12_bent_53 (by decide) ?_
        refine ar_idiv C dX12_bent_54 (by decide) ?_
        refine ar_topi (bd (bpos k)) (bp_e k hk hk2) ?_
        refine ar_istore (als' := [(7, .int (bd (bpos k))), (6, .int (nI k)), (4, .long (ml (blS ρ tx tz c N) k)), (3, .int (bd (bk (blS ρ tx tz c N) k))), (1, .int nv), (2, .int c), (0, .ref 96)]) C dX12_bent_55 (by decide) rfl ?_
        refine ar_aload_n (n := 6) C dX12_bent_57 rfl rfl ?_
        refine ar_getr C flX12_19 rfl kd_96 rf_96_5 dX12_bent_58 ?_
        refine ar_iconst (v := 2) C dX12_bent_61 (by decide) ?_
        refine ar_iald (j := 2) C kd_100 (by decide) (by decide) dX12_bent_62 ?_
        refine ar_topi (ρ 2) (congrFun hρ 2) ?_
        refine ar_iload (n := 0) C dX12_bent_63 rfl ?_
        refine ar_iadd C dX12_bent_65 ?_
        refine ar_iconst (v := 1) C dX12_bent_66 (by decide) ?_
        refine ar_icmp_ge (tgt := 74) C dX12_bent_67 (by decide) (fun c_11 => ?_) (fun c_11 => ?_)
        · refine ar_aload_n (n := 6) C dX12_bent_74 rfl rfl ?_
          refine ar_getr C flX12_19 rfl kd_96 rf_96_5 dX12_bent_75 ?_
          refine ar_iconst (v := 2) C dX12_bent_78 (by decide) ?_
          refine ar_iald (j := 2) C kd_100 (by decide) (by decide) dX12_bent_79 ?_
          refine ar_topi (ρ 2) (congrFun hρ 2) ?_
          refine ar_iload (n := 0) C dX12_bent_80 rfl ?_
          refine ar_iadd C dX12_bent_82 ?_
          refine ar_topi (f_max 1 (ρ 2 + bd (bpos k))) (fmx_1 c_11) ?_
          refine ar_istore (als' := [(8, .int (f_max 1 (ρ 2 + bd (bpos k)))), (7, .int (bd (bpos k))), (6, .int (nI k)), (4, .long (ml (blS ρ tx tz c N) k)), (3, .int (bd (bk (blS ρ tx tz c N) k))), (1, .int nv), (2, .int c), (0, .ref 96)]) C dX12_bent_83 (by decide) rfl ?_
          refine ar_lconst (v := 0) C dX12_bent_85 (by decide) ?_
          refine ar_lstore (als' := [(9, .long 0), (8, .int (f_max 1 (ρ 2 + bd (bpos k)))), (7, .int (bd (bpos k))), (6, .int (nI k)), (4, .long (ml (blS ρ tx tz c N) k)), (3, .int (bd (bk (blS ρ tx tz c N) k))), (1, .int nv), (2, .int c), (0, .ref 96)]) C dX12_bent_86 (by decide) rfl ?_
          refine ar_iconst (v := 0) C dX12_bent_88 (by decide) ?_
          refine ar_istore (als' := [(11, .int 0), (9, .long 0), (8, .int (f_max 1 (ρ 2 + bd (bpos k)))), (7, .int (bd (bpos k))), (6, .int (nI k)), (4, .long (ml (blS ρ tx tz c N) k)), (3, .int (bd (bk (blS ρ tx tz c N) k))), (1, .int nv), (2, .int c), (0, .ref 96)]) C dX12_bent_89 (by decide) rfl ?_
          refine l_mbent3 C M hA hR hT c nv _ _ _ (b := bpos k) (bpos_le (by omega)) ?_ (N + 1) 0 (by omega) (by omega)
          by_cases hk1 : k = 0
          · refine ar_lload (n := 5) C dX12_bent_140 rfl ?_
            refine ar_lconst (v := 0) C dX12_bent_142 (by decide) ?_
            refine ar_lc_lt (tgt := 155) C dX12_bent_143 dX12_bent_144 (by decide) (fun _ => ?_) (fun c_12 => False.elim (c_12 (by rw [hk1, show ml (blS ρ tx tz c N) 0 = -1 from rfl]; decide)))
            refine ar_lload (n := 1) C dX12_bent_155 rfl ?_
            refine ar_lstore (als' := [(4, .long (((blS ρ tx tz c N) (bpos k)).toInt64)), (11, .int (nI N)), (9, .long (((blS ρ tx tz c N) (bpos k)).toInt64)), (8, .int (f_max 1 (ρ 2 + bd (bpos k)))), (7, .int (bd (bpos k))), (6, .int (nI k)), (3, .int (bd (bk (blS ρ tx tz c N) k))), (1, .int nv), (2, .int c), (0, .ref 96)]) C dX12_bent_157 (by decide) rfl ?_
            refine ar_iload (n := 4) C dX12_bent_159 rfl ?_
            refine ar_istore_n (als' := [(3, .int (bd (bpos k))), (4, .long (((blS ρ tx tz c N) (bpos k)).toInt64)), (11, .int (nI N)), (9, .long (((blS ρ tx tz c N) (bpos k)).toInt64)), (8, .int (f_max 1 (ρ 2 + bd (bpos k)))), (7, .int (bd (bpos k))), (6, .int (nI k)), (1, .int nv), (2, .int c), (0, .ref 96)]) C dX12_bent_161 rfl (by decide) rfl ?_
            refine ar_iinc (n := 6) (v := (nI (k + 1))) (als' := [(6, .int (nI (k + 1))), (3, .int (bd (bpos k))), (4, .long (((blS ρ tx tz c N) (bpos k)).toInt64)), (11, .int (nI N)), (9, .long (((blS ρ tx tz c N) (bpos k)).toInt64)), (8, .int (f_max 1 (ρ 2 + bd (bpos k)))), (7, .int (bd (bpos k))), (1, .int nv), (2, .int c), (0, .ref 96)]) C dX12_bent_162 rfl (nI_1 _) (by decide) rfl ?_
            refine ar_goto (tgt := 26) C dX12_bent_165 (by decide) ?_
            refine ar_sub [0, 2, 1, 7, 8, 9] rfl ?_
            obtain ⟨q1, q2⟩ := bk_0 (f := (blS ρ tx tz c N)) (k := k) hk1
            have h9 := ih (k + 1) (by omega) (by omega)
            rw [← q1, ← q2] at h9
            exact h9
          · refine ar_lload (n := 5) C dX12_bent_140 rfl ?_
            refine ar_lconst (v := 0) C dX12_bent_142 (by decide) ?_
            refine ar_lc_lt (tgt := 155) C dX12_bent_143 dX12_bent_144 (by decide) (fun c_13 => False.elim (ml_neg hk1 (blS_n hR hT hN24 c (bk_le (blS ρ tx tz c N) k (by omega)) N (Nat.le_refl _)).1 c_13)) (fun _ => ?_)
            refine ar_lload (n := 1) C dX12_bent_147 rfl ?_
            refine ar_lload (n := 5) C dX12_bent_149 rfl ?_
            refine ar_lc_ge (tgt := 162) C dX12_bent_151 dX12_bent_152 (by decide) (fun c_14 => ?_) (fun c_14 => ?_)
            · refine ar_iinc (n := 4) (v := (nI (k + 1))) (als' := [(6, .int (nI (k + 1))), (11, .int (nI N)), (9, .long (((blS ρ tx tz c N) (bpos k)).toInt64)), (8, .int (f_max 1 (ρ 2 + bd (bpos k)))), (7, .int (bd (bpos k))), (4, .long (ml (blS ρ tx tz c N) k)), (3, .int (bd (bk (blS ρ tx tz c N) k))), (1, .int nv), (2, .int c), (0, .ref 96)]) C dX12_bent_162 rfl (nI_1 _) (by decide) rfl ?_
              refine ar_goto (tgt := 26) C dX12_bent_165 (by decide) ?_
              refine ar_sub [0, 5, 6, 7, 8, 9] rfl ?_
              obtain ⟨q1, q2⟩ := bk_n (f := (blS ρ tx tz c N)) (k := k) hk1 c_14
              have h9 := ih (k + 1) (by omega) (by omega)
              rw [← q1, ← q2] at h9
              exact h9
            · refine ar_lload (n := 1) C dX12_bent_155 rfl ?_
              refine ar_lstore (als' := [(4, .long (((blS ρ tx tz c N) (bpos k)).toInt64)), (11, .int (nI N)), (9, .long (((blS ρ tx tz c N) (bpos k)).toInt64)), (8, .int (f_max 1 (ρ 2 + bd (bpos k)))), (7, .int (bd (bpos k))), (6, .int (nI k)), (3, .int (bd (bk (blS ρ tx tz c N) k))), (1, .int nv), (2, .int c), (0, .ref 96)]) C dX12_bent_157 (by decide) rfl ?_
              refine ar_iload (n := 4) C dX12_bent_159 rfl ?_
              refine ar_istore_n (als' := [(3, .int (bd (bpos k))), (4, .long (((blS ρ tx tz c N) (bpos k)).toInt64)), (11, .int (nI N)), (9, .long (((blS ρ tx tz c N) (bpos k)).toInt64)), (8, .int (f_max 1 (ρ 2 + bd (bpos k)))), (7, .int (bd (bpos k))), (6, .int (nI k)), (1, .int nv), (2, .int c), (0, .ref 96)]) C dX12_bent_161 rfl (by decide) rfl ?_
              refine ar_iinc (n := 6) (v := (nI (k + 1))) (als' := [(6, .int (nI (k + 1))), (3, .int (bd (bpos k))), (4, .long (((blS ρ tx tz c N) (bpos k)).toInt64)), (11, .int (nI N)), (9, .long (((blS ρ tx tz c N) (bpos k)).toInt64)), (8, .int (f_max 1 (ρ 2 + bd (bpos k)))), (7, .int (bd (bpos k))), (1, .int nv), (2, .int c), (0, .ref 96)]) C dX12_bent_162 rfl (nI_1 _) (by decide) rfl ?_
              refine ar_goto (tgt := 26) C dX12_bent_165 (by decide) ?_
              refine ar_sub [0, 2, 1, 7, 8, 9] rfl ?_
              obtain ⟨q1, q2⟩ := bk_y (f := (blS ρ tx tz c N)) (k := k) hk1 c_14
              have h9 := ih (k + 1) (by omega) (by omega)
              rw [← q1, ← q2] at h9
              exact h9
        · refine ar_iconst (v := 1) C dX12_bent_70 (by decide) ?_
          refine ar_goto (tgt := 83) C dX12_bent_71 (by decide) ?_
          refine ar_topi (f_max 1 (ρ 2 + bd (bpos k))) (fmx_2 c_11) ?_
          refine ar_istore (als' := [(8, .int (f_max 1 (ρ 2 + bd (bpos k)))), (7, .int (bd (bpos k))), (6, .int (nI k)), (4, .long (ml (blS ρ tx tz c N) k)), (3, .int (bd (bk (blS ρ tx tz c N) k))), (1, .int nv), (2, .int c), (0, .ref 96)]) C dX12_bent_83 (by decide) rfl ?_
          refine ar_lconst (v := 0) C dX12_bent_85 (by decide) ?_
          refine ar_lstore (als' := [(9, .long 0), (8, .int (f_max 1 (ρ 2 + bd (bpos k)))), (7, .int (bd (bpos k))), (6, .int (nI k)), (4, .long (ml (blS ρ tx tz c N) k)), (3, .int (bd (bk (blS ρ tx tz c N) k))), (1, .int nv), (2, .int c), (0, .ref 96)]) C dX12_bent_86 (by decide) rfl ?_
          refine ar_iconst (v := 0) C dX12_bent_88 (by decide) ?_
          refine ar_istore (als' := [(11, .int 0), (9, .long 0), (8, .int (f_max 1 (ρ 2 + bd (bpos k)))), (7, .int (bd (bpos k))), (6, .int (nI k)), (4, .long (ml (blS ρ tx tz c N) k)), (3, .int (bd (bk (blS ρ tx tz c N) k))), (1, .int nv), (2, .int c), (0, .ref 96)]) C dX12_bent_89 (by decide) rfl ?_
          refine l_mbent3 C M hA hR hT c nv _ _ _ (b := bpos k) (bpos_le (by omega)) ?_ (N + 1) 0 (by omega) (by omega)
          by_cases hk1 : k = 0
          · refine ar_lload (n := 5) C dX12_bent_140 rfl ?_
            refine ar_lconst (v := 0) C dX12_bent_142 (by decide) ?_
            refine ar_lc_lt (tgt := 155) C dX12_bent_143 dX12_bent_144 (by decide) (fun _ => ?_) (fun c_15 => False.elim (c_15 (by rw [hk1, show ml (blS ρ tx tz c N) 0 = -1 from rfl]; decide)))
            refine ar_lload (n := 1) C dX12_bent_155 rfl ?_
            refine ar_lstore (als' := [(4, .long (((blS ρ tx tz c N) (bpos k)).toInt64)), (11, .int (nI N)), (9, .long (((blS ρ tx tz c N) (bpos k)).toInt64)), (8, .int (f_max 1 (ρ 2 + bd (bpos k)))), (7, .int (bd (bpos k))), (6, .int (nI k)), (3, .int (bd (bk (blS ρ tx tz c N) k))), (1, .int nv), (2, .int c), (0, .ref 96)]) C dX12_bent_157 (by decide) rfl ?_
            refine ar_iload (n := 4) C dX12_bent_159 rfl ?_
            refine ar_istore_n (als' := [(3, .int (bd (bpos k))), (4, .long (((blS ρ tx tz c N) (bpos k)).toInt64)), (11, .int (nI N)), (9, .long (((blS ρ tx tz c N) (bpos k)).toInt64)), (8, .int (f_max 1 (ρ 2 + bd (bpos k)))), (7, .int (bd (bpos k))), (6, .int (nI k)), (1, .int nv), (2, .int c), (0, .ref 96)]) C dX12_bent_161 rfl (by decide) rfl ?_
            refine ar_iinc (n := 6) (v := (nI (k + 1))) (als' := [(6, .int (nI (k + 1))), (3, .int (bd (bpos k))), (4, .long (((blS ρ tx tz c N) (bpos k)).toInt64)), (11, .int (nI N)), (9, .long (((blS ρ tx tz c N) (bpos k)).toInt64)), (8, .int (f_max 1 (ρ 2 + bd (bpos k)))), (7, .int (bd (bpos k))), (1, .int nv), (2, .int c), (0, .ref 96)]) C dX12_bent_162 rfl (nI_1 _) (by decide) rfl ?_
            refine ar_goto (tgt := 26) C dX12_bent_165 (by decide) ?_
            refine ar_sub [0, 2, 1, 7, 8, 9] rfl ?_
            obtain ⟨q1, q2⟩ := bk_0 (f := (blS ρ tx tz c N)) (k := k) hk1
            have h9 := ih (k + 1) (by omega) (by omega)
            rw [← q1, ← q2] at h9
            exact h9
          · refine ar_lload (n := 5) C dX12_bent_140 rfl ?_
            refine ar_lconst (v := 0) C dX12_bent_142 (by decide) ?_
            refine ar_lc_lt (tgt := 155) C dX12_bent_143 dX12_bent_144 (by decide) (fun c_16 => False.elim (ml_neg hk1 (blS_n hR hT hN24 c (bk_le (blS ρ tx tz c N) k (by omega)) N (Nat.le_refl _)).1 c_16)) (fun _ => ?_)
            refine ar_lload (n := 1) C dX12_bent_147 rfl ?_
            refine ar_lload (n := 5) C dX12_bent_149 rfl ?_
            refine ar_lc_ge (tgt := 162) C dX12_bent_151 dX12_bent_152 (by decide) (fun c_17 => ?_) (fun c_17 => ?_)
            · refine ar_iinc (n := 4) (v := (nI (k + 1))) (als' := [(6, .int (nI (k + 1))), (11, .int (nI N)), (9, .long (((blS ρ tx tz c N) (bpos k)).toInt64)), (8, .int (f_max 1 (ρ 2 + bd (bpos k)))), (7, .int (bd (bpos k))), (4, .long (ml (blS ρ tx tz c N) k)), (3, .int (bd (bk (blS ρ tx tz c N) k))), (1, .int nv), (2, .int c), (0, .ref 96)]) C dX12_bent_162 rfl (nI_1 _) (by decide) rfl ?_
              refine ar_goto (tgt := 26) C dX12_bent_165 (by decide) ?_
              refine ar_sub [0, 5, 6, 7, 8, 9] rfl ?_
              obtain ⟨q1, q2⟩ := bk_n (f := (blS ρ tx tz c N)) (k := k) hk1 c_17
              have h9 := ih (k + 1) (by omega) (by omega)
              rw [← q1, ← q2] at h9
              exact h9
            · refine ar_lload (n := 1) C dX12_bent_155 rfl ?_
              refine ar_lstore (als' := [(4, .long (((blS ρ tx tz c N) (bpos k)).toInt64)), (11, .int (nI N)), (9, .long (((blS ρ tx tz c N) (bpos k)).toInt64)), (8, .int (f_max 1 (ρ 2 + bd (bpos k)))), (7, .int (bd (bpos k))), (6, .int (nI k)), (3, .int (bd (bk (blS ρ tx tz c N) k))), (1, .int nv), (2, .int c), (0, .ref 96)]) C dX12_bent_157 (by decide) rfl ?_
              refine ar_iload (n := 4) C dX12_bent_159 rfl ?_
              refine ar_istore_n (als' := [(3, .int (bd (bpos k))), (4, .long (((blS ρ tx tz c N) (bpos k)).toInt64)), (11, .int (nI N)), (9, .long (((blS ρ tx tz c N) (bpos k)).toInt64)), (8, .int (f_max 1 (ρ 2 + bd (bpos k)))), (7, .int (bd (bpos k))), (6, .int (nI k)), (1, .int nv), (2, .int c), (0, .ref 96)]) C dX12_bent_161 rfl (by decide) rfl ?_
              refine ar_iinc (n := 6) (v := (nI (k + 1))) (als' := [(6, .int (nI (k + 1))), (3, .int (bd (bpos k))), (4, .long (((blS ρ tx tz c N) (bpos k)).toInt64)), (11, .int (nI N)), (9, .long (((blS ρ tx tz c N) (bpos k)).toInt64)), (8, .int (f_max 1 (ρ 2 + bd (bpos k)))), (7, .int (bd (bpos k))), (1, .int nv), (2, .int c), (0, .ref 96)]) C dX12_bent_162 rfl (nI_1 _) (by decide) rfl ?_
              refine ar_goto (tgt := 26) C dX12_bent_165 (by decide) ?_
              refine ar_sub [0, 2, 1, 7, 8, 9] rfl ?_
              obtain ⟨q1, q2⟩ := bk_y (f := (blS ρ tx tz c N)) (k := k) hk1 c_17
              have h9 := ih (k + 1) (by omega) (by omega)
              rw [← q1, ← q2] at h9
              exact h9
def BEm (M : Mm) (ρ tx tz : Nat → Int32) (N u : Nat) (M1 : Mm) : Prop := (∀ v, M1.1 101 v = if v < u then nb ρ tx tz N v else M.1 101 v) ∧ ∀ k, k ≠ 101 → M1.1 k = M.1 k
theorem bd_in {t : Nat} (h : t ≤ 100) : f_in (bd t) (-50) 50 = true := by
  rw [in_iff, bd_toInt (by omega), show (-50 : Int32).toInt = -50 by decide, show (50 : Int32).toInt = 50 by decide]
  omega
theorem BEm_MA {M M1 : Mm} {ρ β tx ty tz : Nat → Int32} {N u : Nat} (hA : MA M N ρ β tx ty tz) (hB : RB β) (hβ : M.1 101 = β) (h : BEm M ρ tx tz N u M1) : MA M1 N ρ (M1.1 101) tx ty tz := by
  obtain ⟨a1, a2, a3⟩ := hA
  have hb : RB (M1.1 101) := fun v hv => by
    rw [h.1 v]
    by_cases q : v < u
    · rw [if_pos q]; exact bd_in (bb_in _ 50 (by omega))
    · rw [if_neg q, hβ]; exact hB v hv
  refine ⟨by rw [h.2 96 (by decide)]; exact a1, a2, fun t ht => ?_⟩
  obtain ⟨b1, b2, b3, b4, b5, b6, b7, b8⟩ := a3 t ht
  exact ⟨by rw [h.2 100 (by decide)]; exact b1, rfl, by rw [h.2 102 (by decide)]; exact b3, by rw [h.2 103 (by decide)]; exact b4, by rw [h.2 104 (by decide)]; exact b5, b6, hb, b8⟩
theorem BEm_s {M M1 : Mm} {ρ tx tz : Nat → Int32} {N u : Nat} {v : Int32} (h : BEm M ρ tx tz N u M1) (e : v = nb ρ tx tz N u) : BEm M ρ tx tz N (u + 1) (wi M1 101 u v) := by
  refine ⟨fun q => ?_, fun k hk => ?_⟩
  · by_cases c : q = u
    · subst c; simp [wi, e]
    · have e1 : (wi M1 101 u v).1 101 q = M1.1 101 q := by simp [wi, c]
      rw [e1, h.1 q]
      by_cases d : q < u
      · rw [if_pos d, if_pos (by omega)]
      · rw [if_neg d, if_neg (by omega)]
  · rw [← h.2 k hk]; funext b; simp [wi, hk]
theorem cnt_y {f : Nat → Int32} {n : Nat} (h : ¬ f n = 0) : nI (cnt f n) + 1 = nI (cnt f (n + 1)) := by
  rw [show cnt f (n + 1) = cnt f n + 1 by simp [cnt, h]]; exact nI_1 _
theorem cnt_n {f : Nat → Int32} {n : Nat} (h : f n = 0) : nI (cnt f n) + 0 = nI (cnt f (n + 1)) := by
  rw [show cnt f (n + 1) = cnt f n by simp [cnt, h]]; exact Int32.add_zero _
theorem cv_ge {t : Nat} (h : t < 1000) : (9 : Int32) ≤ cv t ↔ 17 ≤ t := by
  rw [Int32.le_iff_toInt_le, cv_toInt h, show (9 : Int32).toInt = 9 by decide]
  omega
set_option maxHeartbeats 4000000 in
set_option maxRecDepth 100000 in
theorem l_mbent1 {X : Ctx} {V : Vx} {Q : State → Prop} (C : Cx X V mX12_bent 2) (M : Mm) {N : Nat} {ρ β tx ty tz : Nat → Int32} (hA : MA M N ρ β tx ty tz) (hR : RR ρ) (hT : TK N tx ty tz) (hρ : M.1 100 = ρ) (hB : RB β) (hβ : M.1 101 = β) (kk : ∀ M1, BEm M ρ tx tz N 17 M1 → AW X V mX12_bent.2.2.1 T0 M1 0 0 Q 196 [(2, .int (cv 17)), (1, .int (nI (cnt (nb ρ tx tz N) 17))), (0, .ref 96)] []) : ∀ (m : Nat) (u : Nat) (M1 : Mm), u ≤ 17 → BEm M ρ tx tz N u M1 → 17 - u < m → AW X V mX12_bent.2.2.1 T0 (M1) 0 0 Q 10 [(2, .int (cv u)), (1, .int (nI (cnt (nb ρ tx tz N) u))), (0, .ref 96)] [] := by
  intro m
  induction m with
  | zero => intro u M1 _ _ h; exact absurd h (Nat.not_lt_zero _)
  | succ m ih =>
    intro u M1 hu0 hE hmz
    refine ar_iload_n (n := 0) C dX12_bent_10 rfl rfl ?_
    refine ar_bipush (v := 9) C dX12_bent_11 (by decide) ?_
    refine ar_icmp_ge (tgt := 196) C dX12_bent_13 (by decide) (fun c_1 => ?_) (fun c_1 => ?_)
    · have hu : u = 17 := by have q := (cv_ge (t := u) (by omega)).mp c_1; omega
      subst hu
      exact kk M1 hE
    · have hu : u < 17 := by
        rcases Nat.lt_or_ge u 17 with q | q
        · exact q
        · exact absurd ((cv_ge (by omega)).mpr q) c_1
      refine ar_iconst (v := 0) C dX12_bent_16 (by decide) ?_
      refine ar_istore_n (als' := [(3, .int 0), (2, .int (cv u)), (1, .int (nI (cnt (nb ρ tx tz N) u))), (0, .ref 96)]) C dX12_bent_17 rfl (by decide) rfl ?_
      refine ar_ldc2 C kcX12_138 dX12_bent_18 ?_
      refine ar_lstore (als' := [(4, .long (-1)), (3, .int 0), (2, .int (cv u)), (1, .int (nI (cnt (nb ρ tx tz N) u))), (0, .ref 96)]) C dX12_bent_21 (by decide) rfl ?_
      refine ar_iconst (v := 0) C dX12_bent_23 (by decide) ?_
      refine ar_istore (als' := [(6, .int 0), (4, .long (-1)), (3, .int 0), (2, .int (cv u)), (1, .int (nI (cnt (nb ρ tx tz N) u))), (0, .ref 96)]) C dX12_bent_24 (by decide) rfl ?_
      refine ar_sub [0, 1, 2, 4, 3, 5] rfl ?_
      have e50 : (0 : Int32) = bd (bk (blS ρ tx tz (cv u) N) 0) := (show (0 : Int32) = bd 50 by decide)
      refine ar_als (show _ = [(6, .int (nI 0)), (4, .long (ml (blS ρ tx tz (cv u) N) 0)), (3, .int (bd (bk (blS ρ tx tz (cv u) N) 0))), (1, .int (nI (cnt (nb ρ tx tz N) u))), (2, .int (cv u)), (0, .ref 96)] from by rw [← e50]; rfl) ?_
      refine l_mbent2 C M1 (BEm_MA hA hB hβ hE) hR hT ((hE.2 100 (by decide)).trans hρ) (cv u) _ ?_ 102 0 (by omega) (by omega)
      have eN : bd (bk (blS ρ tx tz (cv u) N) 101) = nb ρ tx tz N u := by unfold nb; rw [← bk_bb _ 50]
      refine ar_aload_n (n := 5) C dX12_bent_168 rfl rfl ?_
      refine ar_getr C flX12_22 rfl kd_96 rf_96_6 dX12_bent_169 ?_
      refine ar_iload_n (n := 4) C dX12_bent_172 rfl rfl ?_
      refine ar_bipush (v := 8) C dX12_bent_173 (by decide) ?_
      refine ar_iadd C dX12_bent_175 ?_
      refine ar_iload_n (n := 2) C dX12_bent_176 rfl rfl ?_
      refine ar_topi (nb ρ tx tz N u) eN ?_
      refine ar_iast (j := u) C kd_101 (cv_ix u) (by omega) dX12_bent_177 ?_
      refine ar_iload_n (n := 3) C dX12_bent_178 rfl rfl ?_
      refine ar_iload_n (n := 2) C dX12_bent_179 rfl rfl ?_
      refine ar_topi (nb ρ tx tz N u) eN ?_
      refine ar_if_ne (tgt := 187) C dX12_bent_180 (by decide) (fun c_2 => ?_) (fun c_2 => ?_)
      · refine ar_iconst (v := 1) C dX12_bent_187 (by decide) ?_
        refine ar_iadd C dX12_bent_188 ?_
        refine ar_topi (nI (cnt (nb ρ tx tz N) (u + 1))) (cnt_y (f := (nb ρ tx tz N)) c_2) ?_
        refine ar_istore_n (als' := [(1, .int (nI (cnt (nb ρ tx tz N) (u + 1)))), (6, .int (nI 101)), (4, .long (ml (blS ρ tx tz (cv u) N) 101)), (3, .int (bd (bk (blS ρ tx tz (cv u) N) 101))), (2, .int (cv u)), (0, .ref 96)]) C dX12_bent_189 rfl (by decide) rfl ?_
        refine ar_iinc (n := 4) (v := (cv (u + 1))) (als' := [(2, .int (cv (u + 1))), (1, .int (nI (cnt (nb ρ tx tz N) (u + 1)))), (6, .int (nI 101)), (4, .long (ml (blS ρ tx tz (cv u) N) 101)), (3, .int (bd (bk (blS ρ tx tz (cv u) N) 101))), (0, .ref 96)]) C dX12_bent_190 rfl (cv_1 _) (by decide) rfl ?_
        refine ar_goto (tgt := 10) C dX12_bent_193 (by decide) ?_
        refine ar_sub [0, 1, 5] rfl ?_
        exact ih (u + 1) _ (by omega) (BEm_s hE rfl) (by omega)
      · refine ar_iconst (v := 0) C dX12_bent_183 (by decide) ?_
        refine ar_goto (tgt := 188) C dX12_bent_184 (by decide) ?_
        refine ar_iadd C dX12_bent_188 ?_
        refine ar_topi (nI (cnt (nb ρ tx tz N) (u + 1))) (cnt_n (f := (nb ρ tx tz N)) c_2) ?_
        refine ar_istore_n (als' := [(1, .int (nI (cnt (nb ρ tx tz N) (u + 1)))), (6, .int (nI 101)), (4, .long (ml (blS ρ tx tz (cv u) N) 101)), (3, .int (bd (bk (blS ρ tx tz (cv u) N) 101))), (2, .int (cv u)), (0, .ref 96)]) C dX12_bent_189 rfl (by decide) rfl ?_
        refine ar_iinc (n := 4) (v := (cv (u + 1))) (als' := [(2, .int (cv (u + 1))), (1, .int (nI (cnt (nb ρ tx tz N) (u + 1)))), (6, .int (nI 101)), (4, .long (ml (blS ρ tx tz (cv u) N) 101)), (3, .int (bd (bk (blS ρ tx tz (cv u) N) 101))), (0, .ref 96)]) C dX12_bent_190 rfl (cv_1 _) (by decide) rfl ?_
        refine ar_goto (tgt := 10) C dX12_bent_193 (by decide) ?_
        refine ar_sub [0, 1, 5] rfl ?_
        exact ih (u + 1) _ (by omega) (BEm_s hE rfl) (by omega)
set_option maxHeartbeats 4000000 in
set_option maxRecDepth 100000 in
theorem m_bent (M : Mm) {N : Nat} {ρ β tx ty tz : Nat → Int32} (hA : MA M N ρ β tx ty tz) (hR : RR ρ) (hT : TK N tx ty tz) (hρ : M.1 100 = ρ) (hB : RB β) (hβ : M.1 101 = β) : AQ mX12_bent 2 [.ref 96] M (some (.int (nI (cnt (nb ρ tx tz N) 17)))) (BEm (wi M 96 0 0) ρ tx tz N 17) := by
  have hA2 : MA (wi M 96 0 0) N ρ β tx ty tz := ⟨hA.1, hA.2.1, fun t ht => MT_s (Or.inl (by decide)) (hA.2.2 t ht)⟩
  refine AM_ofF (by decide +kernel) (Nat.le_of_ble_eq_true rfl) (fun X V C _ _ => ?_)
  show AW X V mX12_bent.2.2.1 T0 M 0 0 _ 0 [(0, .ref 96)] []
  refine ar_aload_n (n := 0) C dX12_bent_0 rfl rfl ?_
  refine ar_iconst (v := 0) C dX12_bent_1 (by decide) ?_
  refine ar_puti C flX12_59 kd_96 dX12_bent_2 ?_
  refine ar_iconst (v := 0) C dX12_bent_5 (by decide) ?_
  refine ar_istore_n (als' := [(1, .int 0), (0, .ref 96)]) C dX12_bent_6 rfl (by decide) rfl ?_
  refine ar_bipush (v := (-8)) C dX12_bent_7 (by decide) ?_
  refine ar_istore_n (als' := [(2, .int (-8)), (1, .int 0), (0, .ref 96)]) C dX12_bent_9 rfl (by decide) rfl ?_
  refine l_mbent1 C (wi M 96 0 0) hA2 hR hT hρ hB hβ (fun M1 hE => ?_) 18 0 _ (by omega) ⟨fun v => by rw [if_neg (by omega)], fun _ _ => rfl⟩ (by omega)
  refine ar_iload_n (n := 1) C dX12_bent_196 rfl rfl ?_
  exact ar_ireturn C rfl dX12_bent_197 ⟨rfl, rfl, hE⟩
