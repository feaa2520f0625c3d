section VROWS
variable {X : Ctx} {V : Vx} {mb : MB} {d : Nat} {T : Tt} {M : Mm} {cl sl : Nat} {Q : State → Prop} {pc : Nat} {als : List (Nat × Value)} {st : List Value}
/-- reads, with the value's own name -/
theorem ar_getiV (C : Cx X V mb d) {idx c j k n : Nat} {fin : Bool} {v : Int32} (F : FL mb.1.cls idx c j .int fin) (K : KD T k c n) (e : M.1 k j = v) (hd : decode mb.2.1 pc = .ok (.getfield idx, 3)) (kk : AW X V mb.2.2.1 T M cl sl Q (pc + 3) als (.int v :: st)) : AW X V mb.2.2.1 T M cl sl Q pc als (.ref k :: st) := ar_geti C F K hd (by rw [e]; exact kk)
theorem ar_getlV (C : Cx X V mb d) {idx c j k n : Nat} {fin : Bool} {v : Int64} (F : FL mb.1.cls idx c j .long fin) (K : KD T k c n) (e : M.2 k j = v) (hd : decode mb.2.1 pc = .ok (.getfield idx, 3)) (kk : AW X V mb.2.2.1 T M cl sl Q (pc + 3) als (.long v :: st)) : AW X V mb.2.2.1 T M cl sl Q pc als (.ref k :: st) := ar_getl C F K hd (by rw [e]; exact kk)
theorem ar_ialdV (C : Cx X V mb d) {k n j : Nat} {i v : Int32} (K : KD T0 k 20 n) (e : i = nI j) (hj : j < n) (ev : M.1 k j = v) (hd : decode mb.2.1 pc = .ok (.iaload, 1)) (kk : AW X V mb.2.2.1 T0 M cl sl Q (pc + 1) als (.int v :: st)) : AW X V mb.2.2.1 T0 M cl sl Q pc als (.int i :: .ref k :: st) := ar_iald C K e hj hd (by rw [ev]; exact kk)
theorem ar_zaldV (C : Cx X V mb d) {k n j : Nat} {i v : Int32} (K : KD T0 k 21 n) (e : i = nI j) (hj : j < n) (ev : M.1 k j = v) (hd : decode mb.2.1 pc = .ok (.baload, 1)) (kk : AW X V mb.2.2.1 T0 M cl sl Q (pc + 1) als (.int v :: st)) : AW X V mb.2.2.1 T0 M cl sl Q pc als (.int i :: .ref k :: st) := ar_zald C K e hj hd (by rw [ev]; exact kk)
/-- the value on top by another name -/
theorem ar_topi (v : Int32) {x : Int32} (e : x = v) (kk : AW X V mb.2.2.1 T M cl sl Q pc als (.int v :: st)) : AW X V mb.2.2.1 T M cl sl Q pc als (.int x :: st) := by rw [e]; exact kk
theorem ar_topl (v : Int64) {x : Int64} (e : x = v) (kk : AW X V mb.2.2.1 T M cl sl Q pc als (.long v :: st)) : AW X V mb.2.2.1 T M cl sl Q pc als (.long x :: st) := by rw [e]; exact kk
theorem ar_mem (M2 : Mm) (e : M = M2) (kk : AW X V mb.2.2.1 T M2 cl sl Q pc als st) : AW X V mb.2.2.1 T M cl sl Q pc als st := by rw [e]; exact kk
end VROWS
/-! small functions: what they answer -/
def f_abs (x : Int32) : Int32 := if 0 ≤ x then x else -x
def f_max (x y : Int32) : Int32 := if x < y then y else x
def f_min (x y : Int32) : Int32 := if y < x then y else x
def f_lmax (x y : Int64) : Int64 := if x < y then y else x
def f_lmin (x y : Int64) : Int64 := if y < x then y else x
def f_fdiv (x y : Int32) : Int32 := if 0 ≤ x ^^^ y then x / y else if x / y * y = x then x / y else x / y - 1
def f_in (v a b : Int32) : Bool := !decide (v < a) && !decide (b < v)
def f_lin (v a b : Int64) : Bool := !decide (v < a) && !decide (b < v)
def f_by (a b : Int32) : Int32 := if b = 0 then 0 else a / b
def f_lby (a b : Int64) : Int64 := if b = 0 then 0 else a / b
/-- a row's first n places filled -/
def wf (M : Mm) (k n : Nat) (v : Int32) : Mm := (fun a b => if a = k ∧ b < n then v else M.1 a b, M.2)
theorem wf_0 (M : Mm) (k : Nat) (v : Int32) : wf M k 0 v = M := by simp [wf]
theorem wf_s (M : Mm) (k n : Nat) (v : Int32) : wi (wf M k n v) k n v = wf M k (n + 1) v := by
  simp only [wi, wf]
  congr 1
  funext a b
  by_cases h1 : a = k ∧ b = n
  · rw [if_pos h1, if_pos ⟨h1.1, by omega⟩]
  · rw [if_neg h1]
    by_cases h2 : a = k ∧ b < n
    · rw [if_pos h2, if_pos ⟨h2.1, by omega⟩]
    · rw [if_neg h2, if_neg]
      rintro ⟨q1, q2⟩
      by_cases h3 : b = n
      · exact h1 ⟨q1, h3⟩
      · exact h2 ⟨q1, by omega⟩
theorem in_nat {s b : Int32} {n : Nat} (hb : b.toInt = (n : Int)) (h : f_in s 0 b = true) : ∃ i : Nat, i < n + 1 ∧ s = nI i := by
  simp only [f_in, Bool.and_eq_true, Bool.not_eq_true', decide_eq_false_iff_not] at h
  obtain ⟨j, h1, h2⟩ := nI_of2 hb h.1 (by rw [Int32.le_iff_toInt_le]; have := h.2; rw [Int32.lt_iff_toInt_lt] at this; omega)
  exact ⟨j, by omega, h2⟩
theorem f_in_nI {i n : Nat} {b : Int32} (hb : b.toInt = (n : Int)) (hi : i ≤ n) (hn : n < 2 ^ 31) : f_in (nI i) 0 b = true := by
  simp only [f_in, Bool.and_eq_true, Bool.not_eq_true', decide_eq_false_iff_not, Int32.lt_iff_toInt_lt, hb, nI_toInt (show i < 2 ^ 31 by omega)]
  exact ⟨by simp, by omega⟩
theorem f_lin_i (v a b : Int32) : f_lin v.toInt64 a.toInt64 b.toInt64 = f_in v a b := by
  simp only [f_lin, f_in, Int64.lt_iff_toInt_lt, Int32.lt_iff_toInt_lt, Int32.toInt_toInt64]

set_option maxHeartbeats 4000000 in
set_option maxRecDepth 100000 in
theorem k_abs (M : Mm) (x : Int32) : AX mJ9_abs_0f7a4 0 [.int x] M (some (.int (f_abs x))) M := by
  refine AM_ofF (by decide +kernel) (Nat.le_of_ble_eq_true rfl) (fun X V C _ _ => ?_)
  show AW X V mJ9_abs_0f7a4.2.2.1 T0 M 0 0 _ 0 [(0, .int x)] []
  refine ar_iload_n (n := 0) C dJ9_abs_0f7a4_0 rfl rfl ?_
  refine ar_if_ge (tgt := 9) C dJ9_abs_0f7a4_1 (by decide) (fun c_1 => ?_) (fun c_1 => ?_)
  · refine ar_iload_n (n := 0) C dJ9_abs_0f7a4_9 rfl rfl ?_
    exact ar_ireturn C rfl dJ9_abs_0f7a4_10 ⟨by simp [f_abs, *], rfl, rfl⟩
  · refine ar_iload_n (n := 0) C dJ9_abs_0f7a4_4 rfl rfl ?_
    refine ar_ineg C dJ9_abs_0f7a4_5 ?_
    refine ar_goto (tgt := 10) C dJ9_abs_0f7a4_6 (by decide) ?_
    exact ar_ireturn C rfl dJ9_abs_0f7a4_10 ⟨by simp [f_abs, *], rfl, rfl⟩
set_option maxHeartbeats 4000000 in
set_option maxRecDepth 100000 in
theorem k_max (M : Mm) (x y : Int32) : AX mJ9_max_7cf53 0 [.int x, .int y] M (some (.int (f_max x y))) M := by
  refine AM_ofF (by decide +kernel) (Nat.le_of_ble_eq_true rfl) (fun X V C _ _ => ?_)
  show AW X V mJ9_max_7cf53.2.2.1 T0 M 0 0 _ 0 [(0, .int x), (1, .int y)] []
  refine ar_iload_n (n := 0) C dJ9_max_7cf53_0 rfl rfl ?_
  refine ar_iload_n (n := 1) C dJ9_max_7cf53_1 rfl rfl ?_
  refine ar_icmp_lt (tgt := 9) C dJ9_max_7cf53_2 (by decide) (fun c_1 => ?_) (fun c_1 => ?_)
  · refine ar_iload_n (n := 1) C dJ9_max_7cf53_9 rfl rfl ?_
    exact ar_ireturn C rfl dJ9_max_7cf53_10 ⟨by simp [f_max, *], rfl, rfl⟩
  · refine ar_iload_n (n := 0) C dJ9_max_7cf53_5 rfl rfl ?_
    refine ar_goto (tgt := 10) C dJ9_max_7cf53_6 (by decide) ?_
    exact ar_ireturn C rfl dJ9_max_7cf53_10 ⟨by simp [f_max, *], rfl, rfl⟩
set_option maxHeartbeats 4000000 in
set_option maxRecDepth 100000 in
theorem k_min (M : Mm) (x y : Int32) : AX mJ9_min_7cf53 0 [.int x, .int y] M (some (.int (f_min x y))) M := by
  refine AM_ofF (by decide +kernel) (Nat.le_of_ble_eq_true rfl) (fun X V C _ _ => ?_)
  show AW X V mJ9_min_7cf53.2.2.1 T0 M 0 0 _ 0 [(0, .int x), (1, .int y)] []
  refine ar_iload_n (n := 0) C dJ9_min_7cf53_0 rfl rfl ?_
  refine ar_iload_n (n := 1) C dJ9_min_7cf53_1 rfl rfl ?_
  refine ar_icmp_gt (tgt := 9) C dJ9_min_7cf53_2 (by decide) (fun c_1 => ?_) (fun c_1 => ?_)
  · refine ar_iload_n (n := 1) C dJ9_min_7cf53_9 rfl rfl ?_
    exact ar_ireturn C rfl dJ9_min_7cf53_10 ⟨by simp [f_min, *], rfl, rfl⟩
  · refine ar_iload_n (n := 0) C dJ9_min_7cf53_5 rfl rfl ?_
    refine ar_goto (tgt := 10) C dJ9_min_7cf53_6 (by decide) ?_
    exact ar_ireturn C rfl dJ9_min_7cf53_10 ⟨by simp [f_min, *], rfl, rfl⟩
set_option maxHeartbeats 4000000 in
set_option maxRecDepth 100000 in
theorem k_fdiv (M : Mm) (x y : Int32) (hy : ¬ y = 0) : AX mJ9_floorDiv_7cf53 0 [.int x, .int y] M (some (.int (f_fdiv x y))) M := by
  refine AM_ofF (by decide +kernel) (Nat.le_of_ble_eq_true rfl) (fun X V C _ _ => ?_)
  show AW X V mJ9_floorDiv_7cf53.2.2.1 T0 M 0 0 _ 0 [(0, .int x), (1, .int y)] []
  refine ar_iload_n (n := 0) C dJ9_floorDiv_7cf53_0 rfl rfl ?_
  refine ar_iload_n (n := 1) C dJ9_floorDiv_7cf53_1 rfl rfl ?_
  refine ar_idiv C dJ9_floorDiv_7cf53_2 hy ?_
  refine ar_istore_n (als' := [(2, .int (x / y)), (0, .int x), (1, .int y)]) C dJ9_floorDiv_7cf53_3 rfl (by decide) rfl ?_
  refine ar_iload_n (n := 1) C dJ9_floorDiv_7cf53_4 rfl rfl ?_
  refine ar_iload_n (n := 2) C dJ9_floorDiv_7cf53_5 rfl rfl ?_
  refine ar_ixor C dJ9_floorDiv_7cf53_6 ?_
  refine ar_if_ge (tgt := 21) C dJ9_floorDiv_7cf53_7 (by decide) (fun c_1 => ?_) (fun c_1 => ?_)
  · refine ar_iload_n (n := 0) C dJ9_floorDiv_7cf53_21 rfl rfl ?_
    exact ar_ireturn C rfl dJ9_floorDiv_7cf53_22 ⟨by first | (exact (by rw [f_fdiv, if_neg c_1, if_neg c_2])) | (exact (by rw [f_fdiv, if_neg c_1, if_pos c_2])) | (exact (by rw [f_fdiv, if_pos c_1])), rfl, rfl⟩
  · refine ar_iload_n (n := 0) C dJ9_floorDiv_7cf53_10 rfl rfl ?_
    refine ar_iload_n (n := 2) C dJ9_floorDiv_7cf53_11 rfl rfl ?_
    refine ar_imul C dJ9_floorDiv_7cf53_12 ?_
    refine ar_iload_n (n := 1) C dJ9_floorDiv_7cf53_13 rfl rfl ?_
    refine ar_icmp_eq (tgt := 21) C dJ9_floorDiv_7cf53_14 (by decide) (fun c_2 => ?_) (fun c_2 => ?_)
    · refine ar_iload_n (n := 0) C dJ9_floorDiv_7cf53_21 rfl rfl ?_
      exact ar_ireturn C rfl dJ9_floorDiv_7cf53_22 ⟨by first | (exact (by rw [f_fdiv, if_neg c_1, if_neg c_2])) | (exact (by rw [f_fdiv, if_neg c_1, if_pos c_2])) | (exact (by rw [f_fdiv, if_pos c_1])), rfl, rfl⟩
    · refine ar_iload_n (n := 0) C dJ9_floorDiv_7cf53_17 rfl rfl ?_
      refine ar_iconst (v := 1) C dJ9_floorDiv_7cf53_18 (by decide) ?_
      refine ar_isub C dJ9_floorDiv_7cf53_19 ?_
      exact ar_ireturn C rfl dJ9_floorDiv_7cf53_20 ⟨by first | (exact (by rw [f_fdiv, if_neg c_1, if_neg c_2])) | (exact (by rw [f_fdiv, if_neg c_1, if_pos c_2])) | (exact (by rw [f_fdiv, if_pos c_1])), rfl, rfl⟩
set_option maxHeartbeats 4000000 in
set_option maxRecDepth 100000 in
theorem k_lmax (M : Mm) (x y : Int64) : AX mJ9_max_f86c9 0 [.long x, .long y] M (some (.long (f_lmax x y))) M := by
  refine AM_ofF (by decide +kernel) (Nat.le_of_ble_eq_true rfl) (fun X V C _ _ => ?_)
  show AW X V mJ9_max_f86c9.2.2.1 T0 M 0 0 _ 0 [(0, .long x), (2, .long y)] []
  refine ar_lload_n (n := 0) C dJ9_max_f86c9_0 rfl rfl ?_
  refine ar_lload_n (n := 1) C dJ9_max_f86c9_1 rfl rfl ?_
  refine ar_lc_lt (tgt := 10) C dJ9_max_f86c9_2 dJ9_max_f86c9_3 (by decide) (fun c_1 => ?_) (fun c_1 => ?_)
  · refine ar_lload_n (n := 1) C dJ9_max_f86c9_10 rfl rfl ?_
    exact ar_lreturn C rfl dJ9_max_f86c9_11 ⟨by simp [f_lmax, *], rfl, rfl⟩
  · refine ar_lload_n (n := 0) C dJ9_max_f86c9_6 rfl rfl ?_
    refine ar_goto (tgt := 11) C dJ9_max_f86c9_7 (by decide) ?_
    exact ar_lreturn C rfl dJ9_max_f86c9_11 ⟨by simp [f_lmax, *], rfl, rfl⟩
set_option maxHeartbeats 4000000 in
set_option maxRecDepth 100000 in
theorem k_lmin (M : Mm) (x y : Int64) : AX mJ9_min_f86c9 0 [.long x, .long y] M (some (.long (f_lmin x y))) M := by
  refine AM_ofF (by decide +kernel) (Nat.le_of_ble_eq_true rfl) (fun X V C _ _ => ?_)
  show AW X V mJ9_min_f86c9.2.2.1 T0 M 0 0 _ 0 [(0, .long x), (2, .long y)] []
  refine ar_lload_n (n := 0) C dJ9_min_f86c9_0 rfl rfl ?_
  refine ar_lload_n (n := 1) C dJ9_min_f86c9_1 rfl rfl ?_
  refine ar_lc_gt (tgt := 10) C dJ9_min_f86c9_2 dJ9_min_f86c9_3 (by decide) (fun c_1 => ?_) (fun c_1 => ?_)
  · refine ar_lload_n (n := 1) C dJ9_min_f86c9_10 rfl rfl ?_
    exact ar_lreturn C rfl dJ9_min_f86c9_11 ⟨by simp [f_lmin, *], rfl, rfl⟩
  · refine ar_lload_n (n := 0) C dJ9_min_f86c9_6 rfl rfl ?_
    refine ar_goto (tgt := 11) C dJ9_min_f86c9_7 (by decide) ?_
    exact ar_lreturn C rfl dJ9_min_f86c9_11 ⟨by simp [f_lmin, *], rfl, rfl⟩
set_option maxHeartbeats 4000000 in
set_option maxRecDepth 100000 in
theorem k_within (M : Mm) (v a b : Int32) : AX mX11_within 0 [.int v, .int a, .int b] M (some (.int (bI (f_in v a b)))) M := by
  refine AM_ofF (by decide +kernel) (Nat.le_of_ble_eq_true rfl) (fun X V C _ _ => ?_)
  show AW X V mX11_within.2.2.1 T0 M 0 0 _ 0 [(0, .int v), (1, .int a), (2, .int b)] []
  refine ar_iload_n (n := 0) C dX11_within_0 rfl rfl ?_
  refine ar_iload_n (n := 1) C dX11_within_1 rfl rfl ?_
  refine ar_icmp_lt (tgt := 14) C dX11_within_2 (by decide) (fun c_1 => ?_) (fun c_1 => ?_)
  · refine ar_iconst (v := 0) C dX11_within_14 (by decide) ?_
    exact ar_zreturn C rfl rfl dX11_within_15 ⟨by simp [f_in, bI, *], rfl, rfl⟩
  · refine ar_iload_n (n := 0) C dX11_within_5 rfl rfl ?_
    refine ar_iload_n (n := 2) C dX11_within_6 rfl rfl ?_
    refine ar_icmp_gt (tgt := 14) C dX11_within_7 (by decide) (fun c_2 => ?_) (fun c_2 => ?_)
    · refine ar_iconst (v := 0) C dX11_within_14 (by decide) ?_
      exact ar_zreturn C rfl rfl dX11_within_15 ⟨by simp [f_in, bI, *], rfl, rfl⟩
    · refine ar_iconst (v := 1) C dX11_within_10 (by decide) ?_
      refine ar_goto (tgt := 15) C dX11_within_11 (by decide) ?_
      exact ar_zreturn C rfl rfl dX11_within_15 ⟨by simp [f_in, bI, *], rfl, rfl⟩
set_option maxHeartbeats 4000000 in
set_option maxRecDepth 100000 in
theorem k_by (M : Mm) (a b : Int32) : AX mX11_by 0 [.int a, .int b] M (some (.int (f_by a b))) M := by
  refine AM_ofF (by decide +kernel) (Nat.le_of_ble_eq_true rfl) (fun X V C _ _ => ?_)
  show AW X V mX11_by.2.2.1 T0 M 0 0 _ 0 [(0, .int a), (1, .int b)] []
  refine ar_iload_n (n := 1) C dX11_by_0 rfl rfl ?_
  refine ar_if_ne (tgt := 8) C dX11_by_1 (by decide) (fun c_1 => ?_) (fun c_1 => ?_)
  · refine ar_iload_n (n := 0) C dX11_by_8 rfl rfl ?_
    refine ar_iload_n (n := 1) C dX11_by_9 rfl rfl ?_
    refine ar_idiv C dX11_by_10 c_1 ?_
    exact ar_ireturn C rfl dX11_by_11 ⟨by simp [f_by, *], rfl, rfl⟩
  · refine ar_iconst (v := 0) C dX11_by_4 (by decide) ?_
    refine ar_goto (tgt := 11) C dX11_by_5 (by decide) ?_
    exact ar_ireturn C rfl dX11_by_11 ⟨by simp [f_by, *], rfl, rfl⟩
set_option maxHeartbeats 4000000 in
set_option maxRecDepth 100000 in
theorem k_lby (M : Mm) (a b : Int64) : AX mX11_by_ 0 [.long a, .long b] M (some (.long (f_lby a b))) M := by
  refine AM_ofF (by decide +kernel) (Nat.le_of_ble_eq_true rfl) (fun X V C _ _ => ?_)
  show AW X V mX11_by_.2.2.1 T0 M 0 0 _ 0 [(0, .long a), (2, .long b)] []
  refine ar_lload_n (n := 1) C dX11_by__0 rfl rfl ?_
  refine ar_lconst (v := 0) C dX11_by__1 (by decide) ?_
  refine ar_lc_ne (tgt := 10) C dX11_by__2 dX11_by__3 (by decide) (fun c_1 => ?_) (fun c_1 => ?_)
  · refine ar_lload_n (n := 0) C dX11_by__10 rfl rfl ?_
    refine ar_lload_n (n := 1) C dX11_by__11 rfl rfl ?_
    refine ar_ldiv C dX11_by__12 c_1 ?_
    exact ar_lreturn C rfl dX11_by__13 ⟨by simp [f_lby, *], rfl, rfl⟩
  · refine ar_lconst (v := 0) C dX11_by__6 (by decide) ?_
    refine ar_goto (tgt := 13) C dX11_by__7 (by decide) ?_
    exact ar_lreturn C rfl dX11_by__13 ⟨by simp [f_lby, *], rfl, rfl⟩
set_option maxHeartbeats 4000000 in
set_option maxRecDepth 100000 in
theorem k_in (M : Mm) (v a b : Int64) : AX mX12_in 0 [.long v, .long a, .long b] M (some (.int (bI (f_lin v a b)))) M := by
  refine AM_ofF (by decide +kernel) (Nat.le_of_ble_eq_true rfl) (fun X V C _ _ => ?_)
  show AW X V mX12_in.2.2.1 T0 M 0 0 _ 0 [(0, .long v), (2, .long a), (4, .long b)] []
  refine ar_lload_n (n := 0) C dX12_in_0 rfl rfl ?_
  refine ar_lload_n (n := 1) C dX12_in_1 rfl rfl ?_
  refine ar_lc_lt (tgt := 17) C dX12_in_2 dX12_in_3 (by decide) (fun c_1 => ?_) (fun c_1 => ?_)
  · refine ar_iconst (v := 0) C dX12_in_17 (by decide) ?_
    exact ar_zreturn C rfl rfl dX12_in_18 ⟨by simp [f_lin, bI, *], rfl, rfl⟩
  · refine ar_lload_n (n := 0) C dX12_in_6 rfl rfl ?_
    refine ar_lload (n := 2) C dX12_in_7 rfl ?_
    refine ar_lc_gt (tgt := 17) C dX12_in_9 dX12_in_10 (by decide) (fun c_2 => ?_) (fun c_2 => ?_)
    · refine ar_iconst (v := 0) C dX12_in_17 (by decide) ?_
      exact ar_zreturn C rfl rfl dX12_in_18 ⟨by simp [f_lin, bI, *], rfl, rfl⟩
    · refine ar_iconst (v := 1) C dX12_in_13 (by decide) ?_
      refine ar_goto (tgt := 18) C dX12_in_14 (by decide) ?_
      exact ar_zreturn C rfl rfl dX12_in_18 ⟨by simp [f_lin, bI, *], rfl, rfl⟩
theorem k_inI (M : Mm) (v a b : Int32) (a' b' : Int64) (ha : a.toInt64 = a') (hb : b.toInt64 = b') : AX mX12_in 0 [.long v.toInt64, .long a', .long b'] M (some (.int (bI (f_in v a b)))) M := by
  have h := k_in M v.toInt64 a' b'
  rw [← ha, ← hb, f_lin_i] at h
  rw [← ha, ← hb]
  exact h
set_option maxHeartbeats 4000000 in
set_option maxRecDepth 100000 in
theorem k_size (M : Mm) (v : Int32) : AX mX12_size 0 [.int v] M (some (.int (f_abs v))) M := by
  refine AM_ofF (by decide +kernel) (Nat.le_of_ble_eq_true rfl) (fun X V C _ _ => ?_)
  show AW X V mX12_size.2.2.1 T0 M 0 0 _ 0 [(0, .int v)] []
  refine ar_iload_n (n := 0) C dX12_size_0 rfl rfl ?_
  refine ar_if_ge (tgt := 9) C dX12_size_1 (by decide) (fun c_1 => ?_) (fun c_1 => ?_)
  · refine ar_iload_n (n := 0) C dX12_size_9 rfl rfl ?_
    exact ar_ireturn C rfl dX12_size_10 ⟨by simp [f_abs, *], rfl, rfl⟩
  · refine ar_iload_n (n := 0) C dX12_size_4 rfl rfl ?_
    refine ar_ineg C dX12_size_5 ?_
    refine ar_goto (tgt := 10) C dX12_size_6 (by decide) ?_
    exact ar_ireturn C rfl dX12_size_10 ⟨by simp [f_abs, *], rfl, rfl⟩
