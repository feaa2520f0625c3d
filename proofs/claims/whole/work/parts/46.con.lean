/-! LENSTABLE'S CONSTRUCTOR -/
abbrev rz : Nat → Nat → Option Nat := fun _ _ => none
abbrev mz : Mm := (fun _ _ => 0, fun _ _ => 0)
def nRoom (j : Nat) : Int32 := ([0, 10, 100, 0, 5, 160, 100] : List Int32).getD j 0
/-- the references while the rows are filled: sh sheets, th things, tr traces, s2 stands -/
def rA (sh th tr s2 k j : Nat) : Option Nat :=
  if k = 1 then (if j < sh then some (22 + 2 * j) else none)
  else if k = 6 then (if j < th then some (38 + j) else none)
  else if k = 8 then (if j < tr then some (62 + 4 * j) else none)
  else if k = 17 then (if j < s2 then some (94 + j) else none)
  else if k < 22 then T0r k j
  else if k < 22 + 2 * sh then T0r k j
  else if 62 ≤ k ∧ k < 62 + 4 * tr then T0r k j
  else none
def mA (sh th s2 : Nat) : Mm := (fun k j => if k = 3 then nRoom j else if k = 19 ∧ j = 3 then 100 else if 22 ≤ k ∧ k < 22 + 2 * sh ∧ k % 2 = 0 ∧ j = 1 then -1 else if 38 ≤ k ∧ k < 38 + th ∧ j = 2 then 1 else if 94 ≤ k ∧ k < 94 + s2 ∧ j = 3 then 100 else 0, fun _ _ => 0)
theorem r_c1 {sh th tr s2 j : Nat} : rA sh th tr s2 1 j = if j < sh then some (22 + 2 * j) else none := rfl
theorem r_c6 {sh th tr s2 j : Nat} : rA sh th tr s2 6 j = if j < th then some (38 + j) else none := rfl
theorem r_c8 {sh th tr s2 j : Nat} : rA sh th tr s2 8 j = if j < tr then some (62 + 4 * j) else none := rfl
theorem r_c17 {sh th tr s2 j : Nat} : rA sh th tr s2 17 j = if j < s2 then some (94 + j) else none := rfl
theorem r_lo {sh th tr s2 k j : Nat} (h1 : k ≠ 1) (h2 : k ≠ 6) (h3 : k ≠ 8) (h4 : k ≠ 17) (h : k < 22) : rA sh th tr s2 k j = T0r k j := by
  unfold rA; rw [if_neg h1, if_neg h2, if_neg h3, if_neg h4, if_pos h]
theorem r_sh {sh th tr s2 k j : Nat} (h : 22 ≤ k) (h2 : k < 22 + 2 * sh) : rA sh th tr s2 k j = T0r k j := by
  unfold rA; rw [if_neg (by omega), if_neg (by omega), if_neg (by omega), if_neg (by omega), if_neg (by omega), if_pos h2]
theorem r_tr {sh th tr s2 k j : Nat} (h : 22 + 2 * sh ≤ k) (h2 : 62 ≤ k ∧ k < 62 + 4 * tr) : rA sh th tr s2 k j = T0r k j := by
  unfold rA; rw [if_neg (by omega), if_neg (by omega), if_neg (by omega), if_neg (by omega), if_neg (by omega), if_neg (by omega), if_pos h2]
theorem r_no {sh th tr s2 k j : Nat} (h : 22 ≤ k) (h1 : 22 + 2 * sh ≤ k) (h2 : k < 62 ∨ 62 + 4 * tr ≤ k) : rA sh th tr s2 k j = none := by
  unfold rA; rw [if_neg (by omega), if_neg (by omega), if_neg (by omega), if_neg (by omega), if_neg (by omega), if_neg (by omega), if_neg (by omega)]
theorem T0r_sh {k j : Nat} (h : 22 ≤ k) (h2 : k < 38) : T0r k j = if k % 2 = 0 ∧ j = 0 then some (k + 1) else none := by
  unfold T0r
  rw [if_neg (by omega), if_neg (by omega), if_neg (by omega), if_neg (by omega), if_neg (by omega), if_neg (by omega), if_neg (by omega), if_neg (by omega), if_neg (by omega), if_neg (by omega), if_neg (by omega), if_neg (by omega), if_pos h2]
theorem T0r_th {k j : Nat} (h : 38 ≤ k) (h2 : k < 62) : T0r k j = none := by
  unfold T0r
  rw [if_neg (by omega), if_neg (by omega), if_neg (by omega), if_neg (by omega), if_neg (by omega), if_neg (by omega), if_neg (by omega), if_neg (by omega), if_neg (by omega), if_neg (by omega), if_neg (by omega), if_neg (by omega), if_neg (by omega), if_pos h2]
theorem T0r_tr {k j : Nat} (h : 62 ≤ k) (h2 : k < 94) : T0r k j = if k % 4 = 2 ∧ j < 3 then some (k + 1 + j) else none := by
  unfold T0r
  rw [if_neg (by omega), if_neg (by omega), if_neg (by omega), if_neg (by omega), if_neg (by omega), if_neg (by omega), if_neg (by omega), if_neg (by omega), if_neg (by omega), if_neg (by omega), if_neg (by omega), if_neg (by omega), if_neg (by omega), if_neg (by omega), if_pos h2]
theorem T0r_hi {k j : Nat} (h : 94 ≤ k) (h2 : k ≠ 96) : T0r k j = none := by
  unfold T0r
  rw [if_neg (by omega), if_neg (by omega), if_neg (by omega), if_neg (by omega), if_neg (by omega), if_neg (by omega), if_neg (by omega), if_neg (by omega), if_neg (by omega), if_neg (by omega), if_neg (by omega), if_neg (by omega), if_neg (by omega), if_neg (by omega), if_neg (by omega), if_neg h2]
theorem T0r_row {k : Nat} (h : k = 1 ∨ k = 6 ∨ k = 8 ∨ k = 17) {j : Nat} : T0r k j = rA 8 24 8 2 k j := by
  rcases h with rfl | rfl | rfl | rfl <;> rfl
theorem T0r_12 {a b : Nat} (h : a < 22) (h1 : a ≠ 1) (h2 : a ≠ 6) (h3 : a ≠ 8) (h4 : a ≠ 17) (hb : 12 ≤ b) : T0r a b = none := by
  rcases (show a = 0 ∨ a = 2 ∨ a = 9 ∨ a = 10 ∨ a = 12 ∨ a = 14 ∨ a = 20 ∨ (a ≠ 0 ∧ a ≠ 2 ∧ a ≠ 9 ∧ a ≠ 10 ∧ a ≠ 12 ∧ a ≠ 14 ∧ a ≠ 20) by omega) with rfl | rfl | rfl | rfl | rfl | rfl | rfl | q
  · show ([some 1, some 2, some 6, none, some 7, some 8, some 9, some 14, some 17, some 18, some 19, some 20] : List (Option Nat)).getD b none = none
    rw [List.getD_eq_getElem?_getD, List.getElem?_eq_none (by simpa using hb)]
    rfl
  · show (if b < 3 then _ else none) = none; rw [if_neg (by omega)]
  · show (if b < 2 then _ else none) = none; rw [if_neg (by omega)]
  · show (if b = 0 then _ else none) = none; rw [if_neg (by omega)]
  · show (if b = 0 then _ else none) = none; rw [if_neg (by omega)]
  · show (if b < 2 then _ else none) = none; rw [if_neg (by omega)]
  · show (if b = 0 then _ else none) = none; rw [if_neg (by omega)]
  · unfold T0r
    rw [if_neg (by omega), if_neg (by omega), if_neg (by omega), if_neg (by omega), if_neg (by omega), if_neg (by omega), if_neg (by omega), if_neg (by omega), if_neg (by omega), if_neg (by omega), if_neg (by omega), if_pos h]
theorem wr_r {T : Tt} {k j a b : Nat} {v : Option Nat} (h : ¬ (a = k ∧ b = j)) : (wr T k j v).2.2 a b = T.2.2 a b := if_neg h
theorem wr_s {T : Tt} {k j : Nat} {v : Option Nat} : (wr T k j v).2.2 k j = v := if_pos ⟨rfl, rfl⟩
/-- all rows filled: that is the world behind the constructors, but for the model -/
theorem rA_end {a b : Nat} (h : a ≠ 96) : rA 8 24 8 2 a b = T0r a b := by
  by_cases h1 : a = 1 ∨ a = 6 ∨ a = 8 ∨ a = 17
  · exact (T0r_row h1).symm
  · by_cases h2 : a < 22
    · exact r_lo (by omega) (by omega) (by omega) (by omega) h2
    · by_cases h3 : a < 38
      · exact r_sh (by omega) (by omega)
      · by_cases h4 : 62 ≤ a ∧ a < 94
        · exact r_tr (by omega) (by omega)
        · rw [r_no (by omega) (by omega) (by omega)]
          by_cases h5 : a < 62
          · exact (T0r_th (by omega) h5).symm
          · exact (T0r_hi (by omega) h).symm
theorem Tr_ext {n : Nat} {T : Tt} {r : Nat → Nat → Option Nat} (h1 : T.1 = n) (h2 : T.2.1 = T0ty) (h3 : ∀ a b, T.2.2 a b = r a b) : T = Tr n r := by
  obtain ⟨a, b, c⟩ := T
  have h1 : a = n := h1
  have h2 : b = T0ty := h2
  have h3 : c = r := funext fun x => funext fun y => h3 x y
  rw [h1, h2, h3]
theorem Mm_ext {M M1 : Mm} (h1 : ∀ a b, M.1 a b = M1.1 a b) (h2 : M.2 = M1.2) : M = M1 := Prod.ext (funext fun x => funext fun y => h1 x y) h2
theorem ar_world {X : Ctx} {V : Vx} {nL : Nat} {T T1 : Tt} {M M1 : Mm} {cl cl1 sl sl1 : Nat} {Q : State → Prop} {pc : Nat} {als : List (Nat × Value)} {st : List Value} (eT : T = T1) (eM : M = M1) (ec : cl = cl1) (es : sl = sl1) (kk : AW X V nL T1 M1 cl1 sl1 Q pc als st) : AW X V nL T M cl sl Q pc als st := by rw [eT, eM, ec, es]; exact kk
/-! a step of each row -/
theorem TS_s {i : Nat} (hi : i < 8) : wr (wr (gr (gr (Tr (22 + 2 * i) (rA i 0 0 0)))) (22 + 2 * i) 0 (some (23 + 2 * i))) 1 i (some (22 + 2 * i)) = Tr (22 + 2 * (i + 1)) (rA (i + 1) 0 0 0) := by
  refine Tr_ext (show 22 + 2 * i + 1 + 1 = _ by omega) rfl (fun a b => ?_)
  by_cases h1 : a = 1
  · subst h1
    rw [r_c1]
    by_cases hb : b = i
    · subst hb; rw [wr_s, if_pos (by omega)]
    · rw [wr_r (by omega), wr_r (by omega)]
      show rA i 0 0 0 1 b = _
      rw [r_c1]
      by_cases q : b < i
      · rw [if_pos q, if_pos (by omega)]
      · rw [if_neg q, if_neg (by omega)]
  · rw [wr_r (by omega)]
    by_cases h2 : a = 22 + 2 * i
    · subst h2
      rw [r_sh (by omega) (by omega), T0r_sh (by omega) (by omega)]
      by_cases hb : b = 0
      · subst hb; rw [wr_s, if_pos (by omega)]; congr 1; omega
      · rw [wr_r (by omega), if_neg (by omega)]
        show rA i 0 0 0 (22 + 2 * i) b = _
        exact r_no (by omega) (by omega) (by omega)
    · rw [wr_r (by omega)]
      show rA i 0 0 0 a b = _
      by_cases h3 : a = 6 ∨ a = 8 ∨ a = 17
      · rcases h3 with rfl | rfl | rfl <;> rfl
      · by_cases h4 : a < 22
        · rw [r_lo h1 (by omega) (by omega) (by omega) h4, r_lo h1 (by omega) (by omega) (by omega) h4]
        · by_cases h5 : a < 22 + 2 * i
          · rw [r_sh (by omega) h5, r_sh (by omega) (by omega)]
          · rw [r_no (by omega) (by omega) (by omega)]
            by_cases h6 : a = 23 + 2 * i
            · rw [r_sh (by omega) (by omega), T0r_sh (by omega) (by omega), if_neg (by omega)]
            · rw [r_no (by omega) (by omega) (by omega)]
theorem TH_s {i : Nat} (hi : i < 24) : wr (gr (Tr (38 + i) (rA 8 i 0 0))) 6 i (some (38 + i)) = Tr (38 + (i + 1)) (rA 8 (i + 1) 0 0) := by
  refine Tr_ext (show 38 + i + 1 = _ by omega) rfl (fun a b => ?_)
  by_cases h1 : a = 6
  · subst h1
    rw [r_c6]
    by_cases hb : b = i
    · subst hb; rw [wr_s, if_pos (by omega)]
    · rw [wr_r (by omega)]
      show rA 8 i 0 0 6 b = _
      rw [r_c6]
      by_cases q : b < i
      · rw [if_pos q, if_pos (by omega)]
      · rw [if_neg q, if_neg (by omega)]
  · rw [wr_r (by omega)]
    show rA 8 i 0 0 a b = _
    unfold rA
    rw [if_neg h1, if_neg h1]
theorem TC_s {i : Nat} (hi : i < 8) : wr (wr (gr (wr (gr (wr (gr (gr (Tr (62 + 4 * i) (rA 8 24 i 0)))) (62 + 4 * i) 0 (some (63 + 4 * i)))) (62 + 4 * i) 1 (some (64 + 4 * i)))) (62 + 4 * i) 2 (some (65 + 4 * i))) 8 i (some (62 + 4 * i)) = Tr (62 + 4 * (i + 1)) (rA 8 24 (i + 1) 0) := by
  refine Tr_ext (show 62 + 4 * i + 1 + 1 + 1 + 1 = _ by omega) rfl (fun a b => ?_)
  by_cases h1 : a = 8
  · subst h1
    rw [r_c8]
    by_cases hb : b = i
    · subst hb; rw [wr_s, if_pos (by omega)]
    · rw [wr_r (by omega), wr_r (by omega)]
      show (wr _ _ _ _).2.2 8 b = _
      rw [wr_r (by omega)]
      show (wr _ _ _ _).2.2 8 b = _
      rw [wr_r (by omega)]
      show rA 8 24 i 0 8 b = _
      rw [r_c8]
      by_cases q : b < i
      · rw [if_pos q, if_pos (by omega)]
      · rw [if_neg q, if_neg (by omega)]
  · rw [wr_r (by omega)]
    by_cases h2 : a = 62 + 4 * i
    · subst h2
      rw [r_tr (by omega) (by omega), T0r_tr (by omega) (by omega)]
      by_cases b2 : b = 2
      · subst b2; rw [wr_s, if_pos (by omega)]; congr 1; omega
      · rw [wr_r (by omega)]
        show (wr _ _ _ _).2.2 (62 + 4 * i) b = _
        by_cases b1 : b = 1
        · subst b1; rw [wr_s, if_pos (by omega)]; congr 1; omega
        · rw [wr_r (by omega)]
          show (wr _ _ _ _).2.2 (62 + 4 * i) b = _
          by_cases b0 : b = 0
          · subst b0; rw [wr_s, if_pos (by omega)]; congr 1; omega
          · rw [wr_r (by omega), if_neg (by omega)]
            show rA 8 24 i 0 (62 + 4 * i) b = _
            exact r_no (by omega) (by omega) (by omega)
    · rw [wr_r (by omega)]
      show (wr _ _ _ _).2.2 a b = _
      rw [wr_r (by omega)]
      show (wr _ _ _ _).2.2 a b = _
      rw [wr_r (by omega)]
      show rA 8 24 i 0 a b = _
      by_cases h3 : a = 1 ∨ a = 6 ∨ a = 17
      · rcases h3 with rfl | rfl | rfl <;> rfl
      · by_cases h4 : a < 22
        · rw [r_lo (by omega) (by omega) h1 (by omega) h4, r_lo (by omega) (by omega) h1 (by omega) h4]
        · by_cases h5 : a < 38
          · rw [r_sh (by omega) (by omega), r_sh (by omega) (by omega)]
          · by_cases h6 : 62 ≤ a ∧ a < 62 + 4 * i
            · rw [r_tr (by omega) h6, r_tr (by omega) (by omega)]
            · rw [r_no (by omega) (by omega) (by omega)]
              by_cases h7 : 62 ≤ a ∧ a < 62 + 4 * (i + 1)
              · rw [r_tr (by omega) h7, T0r_tr (by omega) (by omega), if_neg (by omega)]
              · rw [r_no (by omega) (by omega) (by omega)]
theorem TD_s {i : Nat} (hi : i < 2) : wr (gr (Tr (94 + i) (rA 8 24 8 i))) 17 i (some (94 + i)) = Tr (94 + (i + 1)) (rA 8 24 8 (i + 1)) := by
  refine Tr_ext (show 94 + i + 1 = _ by omega) rfl (fun a b => ?_)
  by_cases h1 : a = 17
  · subst h1
    rw [r_c17]
    by_cases hb : b = i
    · subst hb; rw [wr_s, if_pos (by omega)]
    · rw [wr_r (by omega)]
      show rA 8 24 8 i 17 b = _
      rw [r_c17]
      by_cases q : b < i
      · rw [if_pos q, if_pos (by omega)]
      · rw [if_neg q, if_neg (by omega)]
  · rw [wr_r (by omega)]
    show rA 8 24 8 i a b = _
    unfold rA
    rw [if_neg h1, if_neg h1]
theorem m_z {sh th s2 a b : Nat} (h3 : a ≠ 3) (h19 : a ≠ 19) (h : ¬ (22 ≤ a ∧ a < 22 + 2 * sh ∧ a % 2 = 0 ∧ b = 1)) (h2 : ¬ (38 ≤ a ∧ a < 38 + th ∧ b = 2)) (h4 : ¬ (94 ≤ a ∧ a < 94 + s2 ∧ b = 3)) : (mA sh th s2).1 a b = 0 := by
  show (if a = 3 then _ else _) = _
  rw [if_neg h3, if_neg (fun q => h19 q.1), if_neg h, if_neg h2, if_neg h4]
theorem m_sh {sh th s2 a b : Nat} (h : 22 ≤ a ∧ a < 22 + 2 * sh ∧ a % 2 = 0 ∧ b = 1) : (mA sh th s2).1 a b = -1 := by
  show (if a = 3 then _ else _) = _
  rw [if_neg (by omega), if_neg (by omega), if_pos h]
theorem m_th {sh th s2 a b : Nat} (h0 : 22 + 2 * sh ≤ 38) (h : 38 ≤ a ∧ a < 38 + th ∧ b = 2) : (mA sh th s2).1 a b = 1 := by
  show (if a = 3 then _ else _) = _
  rw [if_neg (by omega), if_neg (by omega), if_neg (by omega), if_pos h]
theorem m_sd {sh th s2 a b : Nat} (h0 : 22 + 2 * sh ≤ 38) (h1 : 38 + th ≤ 62) (h : 94 ≤ a ∧ a < 94 + s2 ∧ b = 3) : (mA sh th s2).1 a b = 100 := by
  show (if a = 3 then _ else _) = _
  rw [if_neg (by omega), if_neg (by omega), if_neg (by omega), if_neg (by omega), if_pos h]
theorem m_cg {sh th s2 sh2 th2 s22 a b : Nat} (h : (22 ≤ a ∧ a < 22 + 2 * sh ∧ a % 2 = 0 ∧ b = 1) ↔ (22 ≤ a ∧ a < 22 + 2 * sh2 ∧ a % 2 = 0 ∧ b = 1)) (h2 : (38 ≤ a ∧ a < 38 + th ∧ b = 2) ↔ (38 ≤ a ∧ a < 38 + th2 ∧ b = 2)) (h4 : (94 ≤ a ∧ a < 94 + s2 ∧ b = 3) ↔ (94 ≤ a ∧ a < 94 + s22 ∧ b = 3)) : (mA sh th s2).1 a b = (mA sh2 th2 s22).1 a b := by
  show (if a = 3 then _ else _) = (if a = 3 then _ else _)
  simp only [h, h2, h4]
theorem MS_s {i : Nat} (hi : i < 8) : wi (wi (mA i 0 0) (22 + 2 * i) 1 (-1)) (22 + 2 * i) 2 0 = mA (i + 1) 0 0 := by
  refine Mm_ext (fun a b => ?_) rfl
  by_cases h : a = 22 + 2 * i ∧ b = 2
  · rw [h.1, h.2, wi_s, m_z (by omega) (by omega) (by omega) (by omega) (by omega)]
  · rw [wi_r h]
    by_cases h2 : a = 22 + 2 * i ∧ b = 1
    · rw [h2.1, h2.2, wi_s, m_sh (by omega)]
    · rw [wi_r h2]
      exact m_cg (by omega) (by omega) (by omega)
theorem MH_s {i : Nat} (hi : i < 24) : wi (mA 8 i 0) (38 + i) 2 1 = mA 8 (i + 1) 0 := by
  refine Mm_ext (fun a b => ?_) rfl
  by_cases h : a = 38 + i ∧ b = 2
  · rw [h.1, h.2, wi_s, m_th (by omega) (by omega)]
  · rw [wi_r h]
    exact m_cg (by omega) (by omega) (by omega)
theorem MD_s {i : Nat} (hi : i < 2) : wi (mA 8 24 i) (94 + i) 3 100 = mA 8 24 (i + 1) := by
  refine Mm_ext (fun a b => ?_) rfl
  by_cases h : a = 94 + i ∧ b = 3
  · rw [h.1, h.2, wi_s, m_sd (by omega) (by omega) (by omega)]
  · rw [wi_r h]
    exact m_cg (by omega) (by omega) (by omega)
theorem FrS {i : Nat} (hi : i ≤ 8) : Fr (Tr (22 + 2 * i) (rA i 0 0 0)) (mA i 0 0) := ⟨rfl, fun c j hc => by
  have hc : 22 + 2 * i ≤ c := hc
  exact ⟨r_no (by omega) (by omega) (by omega), m_z (by omega) (by omega) (by omega) (by omega) (by omega), rfl⟩⟩
theorem FrH {i : Nat} (hi : i ≤ 24) : Fr (Tr (38 + i) (rA 8 i 0 0)) (mA 8 i 0) := ⟨rfl, fun c j hc => by
  have hc : 38 + i ≤ c := hc
  exact ⟨r_no (by omega) (by omega) (by omega), m_z (by omega) (by omega) (by omega) (by omega) (by omega), rfl⟩⟩
theorem FrC {i : Nat} (hi : i ≤ 8) : Fr (Tr (62 + 4 * i) (rA 8 24 i 0)) (mA 8 24 0) := ⟨rfl, fun c j hc => by
  have hc : 62 + 4 * i ≤ c := hc
  exact ⟨r_no (by omega) (by omega) (by omega), m_z (by omega) (by omega) (by omega) (by omega) (by omega), rfl⟩⟩
theorem FrD {i : Nat} (hi : i ≤ 2) : Fr (Tr (94 + i) (rA 8 24 8 i)) (mA 8 24 i) := ⟨rfl, fun c j hc => by
  have hc : 94 + i ≤ c := hc
  exact ⟨r_no (by omega) (by omega) (by omega), m_z (by omega) (by omega) (by omega) (by omega) (by omega), rfl⟩⟩
def wrf (r : Nat → Nat → Option Nat) (k j v : Nat) : Nat → Nat → Option Nat := fun a b => if a = k ∧ b = j then some v else r a b
theorem wrf_r {r : Nat → Nat → Option Nat} {k j v a b : Nat} (h : ¬ (a = k ∧ b = j)) : wrf r k j v a b = r a b := if_neg h
def TZ : Tt := Tr 22 (wrf (wrf (wrf (wrf (wrf (wrf (wrf (wrf (wrf (wrf (wrf (wrf (wrf (wrf (wrf (wrf (wrf (wrf (wrf (wrf (wrf rz 0 0 1) 2 0 3) 2 1 4) 2 2 5) 0 1 2) 0 2 6) 0 4 7) 0 5 8) 10 0 11) 9 0 10) 12 0 13) 9 1 12) 0 6 9) 14 0 15) 14 1 16) 0 7 14) 0 8 17) 0 9 18) 0 10 19) 20 0 21) 0 11 20)
def MZ : Mm := wi (wi (wi (wi (wi (wi (wi (wi (wi (wi (wi (wi (wi (wi mz 3 0 0) 3 1 10) 3 2 100) 3 3 0) 3 4 5) 3 5 160) 3 6 100) 0 3 0) 10 1 0) 12 1 0) 14 2 0) 19 3 100) 20 1 0) 0 12 0
theorem TZ_t : ∀ a, a < 22 → ∀ b, b < 12 → TZ.2.2 a b = rA 0 0 0 0 a b := by decide +kernel
theorem MZ_t : ∀ a, a < 22 → ∀ b, b < 13 → MZ.1 a b = (mA 0 0 0).1 a b := by decide +kernel
theorem TZ_o {a b : Nat} (h : 22 ≤ a ∨ 12 ≤ b) : TZ.2.2 a b = none := ((wrf_r (by omega)).trans ((wrf_r (by omega)).trans ((wrf_r (by omega)).trans ((wrf_r (by omega)).trans ((wrf_r (by omega)).trans ((wrf_r (by omega)).trans ((wrf_r (by omega)).trans ((wrf_r (by omega)).trans ((wrf_r (by omega)).trans ((wrf_r (by omega)).trans ((wrf_r (by omega)).trans ((wrf_r (by omega)).trans ((wrf_r (by omega)).trans ((wrf_r (by omega)).trans ((wrf_r (by omega)).trans ((wrf_r (by omega)).trans ((wrf_r (by omega)).trans ((wrf_r (by omega)).trans ((wrf_r (by omega)).trans ((wrf_r (by omega)).trans (wrf_r (by omega))))))))))))))))))))))
theorem MZ_o {a b : Nat} (h : 22 ≤ a ∨ 13 ≤ b) : MZ.1 a b = 0 := ((wi_r (by omega)).trans ((wi_r (by omega)).trans ((wi_r (by omega)).trans ((wi_r (by omega)).trans ((wi_r (by omega)).trans ((wi_r (by omega)).trans ((wi_r (by omega)).trans ((wi_r (by omega)).trans ((wi_r (by omega)).trans ((wi_r (by omega)).trans ((wi_r (by omega)).trans ((wi_r (by omega)).trans ((wi_r (by omega)).trans (wi_r (by omega)))))))))))))))
theorem TZ_e : TZ = Tr (22 + 2 * 0) (rA 0 0 0 0) := by
  refine Tr_ext rfl rfl (fun a b => ?_)
  by_cases ha : a < 22
  · by_cases hb : b < 12
    · exact TZ_t a ha b hb
    · rw [TZ_o (by omega)]
      by_cases h : a = 1 ∨ a = 6 ∨ a = 8 ∨ a = 17
      · rcases h with rfl | rfl | rfl | rfl <;> rfl
      · rw [r_lo (by omega) (by omega) (by omega) (by omega) ha, T0r_12 ha (by omega) (by omega) (by omega) (by omega) (by omega)]
  · rw [TZ_o (by omega), r_no (by omega) (by omega) (by omega)]
theorem nRoom_0 {b : Nat} (h : 7 ≤ b) : nRoom b = 0 := by
  unfold nRoom
  rw [List.getD_eq_getElem?_getD, List.getElem?_eq_none (by simpa using h)]
  rfl
theorem MZ_e : MZ = mA 0 0 0 := by
  refine Mm_ext (fun a b => ?_) rfl
  by_cases ha : a < 22
  · by_cases hb : b < 13
    · exact MZ_t a ha b hb
    · rw [MZ_o (by omega)]
      by_cases h : a = 3
      · subst h; exact (nRoom_0 (by omega)).symm
      · by_cases h2 : a = 19
        · subst h2
          show (0 : Int32) = (if 19 = 3 then nRoom b else if 19 = 19 ∧ b = 3 then 100 else if 22 ≤ 19 ∧ 19 < 22 + 2 * 0 ∧ 19 % 2 = 0 ∧ b = 1 then -1 else if 38 ≤ 19 ∧ 19 < 38 + 0 ∧ b = 2 then 1 else if 94 ≤ 19 ∧ 19 < 94 + 0 ∧ b = 3 then 100 else 0)
          rw [if_neg (by omega), if_neg (by omega), if_neg (by omega), if_neg (by omega), if_neg (by omega)]
        · rw [m_z h h2 (by omega) (by omega) (by omega)]
  · rw [MZ_o (by omega), m_z (by omega) (by omega) (by omega) (by omega) (by omega)]
theorem kd_items_n {i : Nat} (hi : i < 8) : T0ty (22 + 2 * i + 1) = (20, 80) := by
  rw [show 22 + 2 * i + 1 = 23 + 2 * i by omega]; exact (kd_items hi).2
theorem kd_has_n {i : Nat} (hi : i < 8) : T0ty (62 + 4 * i + 1) = (21, 24) := by
  rw [show 62 + 4 * i + 1 = 63 + 4 * i by omega]; exact (kd_has hi).2
theorem kd_tx_n {i : Nat} (hi : i < 8) : T0ty (62 + 4 * i + 1 + 1) = (20, 24) := by
  rw [show 62 + 4 * i + 1 + 1 = 64 + 4 * i by omega]; exact (kd_tx hi).2
theorem kd_ty_n {i : Nat} (hi : i < 8) : T0ty (62 + 4 * i + 1 + 2) = (20, 24) := by
  rw [show 62 + 4 * i + 1 + 2 = 65 + 4 * i by omega]; exact (kd_ty hi).2
theorem TS_s2 {i : Nat} (hi : i < 8) : wr (wr (gr (gr (Tr (22 + 2 * i) (rA i 0 0 0)))) (22 + 2 * i) 0 (some (22 + 2 * i + 1))) 1 i (some (22 + 2 * i)) = Tr (22 + 2 * (i + 1)) (rA (i + 1) 0 0 0) := by
  rw [show 22 + 2 * i + 1 = 23 + 2 * i by omega]; exact TS_s hi
theorem TC_s2 {i : Nat} (hi : i < 8) : wr (wr (gr (wr (gr (wr (gr (gr (Tr (62 + 4 * i) (rA 8 24 i 0)))) (62 + 4 * i) 0 (some (62 + 4 * i + 1)))) (62 + 4 * i) 1 (some (62 + 4 * i + 1 + 1)))) (62 + 4 * i) 2 (some (62 + 4 * i + 1 + 2))) 8 i (some (62 + 4 * i)) = Tr (62 + 4 * (i + 1)) (rA 8 24 (i + 1) 0) := by
  rw [show 62 + 4 * i + 1 + 1 = 64 + 4 * i by omega, show 62 + 4 * i + 1 + 2 = 65 + 4 * i by omega, show 62 + 4 * i + 1 = 63 + 4 * i by omega]; exact TC_s hi
set_option maxHeartbeats 4000000 in
set_option maxRecDepth 100000 in
theorem l_csheet {X : Ctx} {V : Vx} {Q : State → Prop} (C : Cx X V mX11_init 3) (hcR : (cR X).cells = 95) (hsR : (cR X).slots = 1622) (hE : (cS X).heap.size = V.2.2.1 + 1) (kk : AW X V mX11_init.2.2.1 (Tr (22 + 2 * 8) (rA 8 0 0 0)) (mA 8 0 0) (21 + 2 * 8) (278 + 83 * 8) Q 153 [(1, .int (nI 8)), (0, .ref 0)] []) : ∀ (m i : Nat), i ≤ 8 → 8 - i < m → AW X V mX11_init.2.2.1 (Tr (22 + 2 * i) (rA i 0 0 0)) (mA i 0 0) (21 + 2 * i) (278 + 83 * i) Q 128 [(1, .int (nI i)), (0, .ref 0)] [] := by
  intro m
  induction m with
  | zero => intro i _ h; exact absurd h (Nat.not_lt_zero _)
  | succ m ih =>
    intro i hi0 hmz
    refine ar_iload_n (n := 0) C dX11_init_128 rfl rfl ?_
    refine ar_bipush (v := 8) C dX11_init_129 (by decide) ?_
    refine ar_icmp_ge (tgt := 153) C dX11_init_131 (by decide) (fun c_1 => ?_) (fun c_1 => ?_)
    · have hi : i = 8 := Nat.le_antisymm hi0 (nat_le (a := 8) c_1 (by decide) (by omega))
      subst hi
      exact kk
    · have hi : i < 8 := nat_nle (a := 8) c_1 (by decide) (by omega)
      refine ar_aload_n (n := 1) C dX11_init_134 rfl rfl ?_
      refine ar_getr (T := Tr (22 + 2 * i) (rA i 0 0 0)) (k := 0) (r := 1) C flX11_11 rfl ⟨show 0 < 22 + 2 * i from by omega, (show T0ty 0 = (11, 0) from by decide)⟩ rfl dX11_init_135 ?_
      refine ar_iload_n (n := 0) C dX11_init_138 rfl rfl ?_
      refine ar_newG (c := 6) (T := Tr (22 + 2 * i) (rA i 0 0 0)) C (show (cS X).heap.size + (21 + 2 * i) = V.2.2.1 + (22 + 2 * i) from by omega) (by decide) cwX6 (wA_t 24 (by decide +kernel) rfl) (wA_t 196 (by decide +kernel) rfl) (wA_t 10 (by decide +kernel) rfl) (FrS (by omega)) (kd_sheet hi).2 (by decide) (by rw [hcR, hsR]; exact ⟨by omega, by simp only [nfc]; omega⟩) dX11_init_139 ?_
      refine ar_dup C dX11_init_142 rfl ?_
      refine ar_callI (T := gr (Tr (22 + 2 * i) (rA i 0 0 0))) (k := 22 + 2 * i) (ar := []) (st := [.ref (22 + 2 * i), .int (nI i), .ref 1]) C lkX11_87 (c_sheet (gr (Tr (22 + 2 * i) (rA i 0 0 0))).2.2 (mA i 0 0) (n := 22 + 2 * i + 1) (k := 22 + 2 * i) (by omega) (kd_sheet hi).2 (kd_items_n hi) (by omega) (Fr_gr (FrS (by omega)))) (by decide) rfl (Nat.le_of_ble_eq_true rfl) rfl (by rw [hcR, hsR]; exact ⟨by omega, by simp only [nfc]; omega⟩) dX11_init_143 (fun v1 T1 M1 hp => ?_)
      obtain ⟨rfl, rfl, rfl⟩ := hp
      show AW X V mX11_init.2.2.1 (wr (gr (gr (Tr (22 + 2 * i) (rA i 0 0 0)))) (22 + 2 * i) 0 (some (22 + 2 * i + 1))) (wi (wi (mA i 0 0) (22 + 2 * i) 1 (-1)) (22 + 2 * i) 2 0) (21 + 2 * i + 1 + 1) (278 + 83 * i + 3 + 80) _ 146 [(1, .int (nI i)), (0, .ref 0)] [.ref (22 + 2 * i), .int (nI i), .ref 1]
      refine ar_aastG (T := wr (gr (gr (Tr (22 + 2 * i) (rA i 0 0 0)))) (22 + 2 * i) 0 (some (22 + 2 * i + 1))) (k := 1) (n := 8) (t := 2) (j := i) (r := 22 + 2 * i) (ci := 6) C (show (cS X).heap.size + (21 + 2 * i + 1 + 1) = V.2.2.1 + (22 + 2 * i + 1 + 1) from by omega) ⟨show 1 < 22 + 2 * i + 1 + 1 from by omega, (show T0ty 1 = (2 + 20, 8) from by decide)⟩ (by decide) (by decide) rfl ⟨show 22 + 2 * i < 22 + 2 * i + 1 + 1 from by omega, (kd_sheet hi).2⟩ rfl (by omega) (by decide) dX11_init_146 ?_
      refine ar_iinc (n := 0) (v := nI (i + 1)) (als' := [(1, .int (nI (i + 1))), (0, .ref 0)]) C dX11_init_147 rfl (nI_1 _) (by decide) rfl ?_
      refine ar_goto (tgt := 128) C dX11_init_150 (by decide) ?_
      exact ar_world (TS_s2 hi) (MS_s hi) (by omega) (by omega) (ih (i + 1) (by omega) (by omega))
set_option maxHeartbeats 4000000 in
set_option maxRecDepth 100000 in
theorem l_cthing {X : Ctx} {V : Vx} {Q : State → Prop} (C : Cx X V mX11_init 3) (hcR : (cR X).cells = 95) (hsR : (cR X).slots = 1622) (hE : (cS X).heap.size = V.2.2.1 + 1) (kk : AW X V mX11_init.2.2.1 (Tr (38 + 24) (rA 8 24 0 0)) (mA 8 24 0) (37 + 1 * 24) (942 + 3 * 24) Q 180 [(1, .int (nI 24)), (0, .ref 0)] []) : ∀ (m i : Nat), i ≤ 24 → 24 - i < m → AW X V mX11_init.2.2.1 (Tr (38 + i) (rA 8 i 0 0)) (mA 8 i 0) (37 + 1 * i) (942 + 3 * i) Q 155 [(1, .int (nI i)), (0, .ref 0)] [] := by
  intro m
  induction m with
  | zero => intro i _ h; exact absurd h (Nat.not_lt_zero _)
  | succ m ih =>
    intro i hi0 hmz
    refine ar_iload_n (n := 0) C dX11_init_155 rfl rfl ?_
    refine ar_bipush (v := 24) C dX11_init_156 (by decide) ?_
    refine ar_icmp_ge (tgt := 180) C dX11_init_158 (by decide) (fun c_1 => ?_) (fun c_1 => ?_)
    · have hi : i = 24 := Nat.le_antisymm hi0 (nat_le (a := 24) c_1 (by decide) (by omega))
      subst hi
      exact kk
    · have hi : i < 24 := nat_nle (a := 24) c_1 (by decide) (by omega)
      refine ar_aload_n (n := 1) C dX11_init_161 rfl rfl ?_
      refine ar_getr (T := Tr (38 + i) (rA 8 i 0 0)) (k := 0) (r := 6) C flX11_24 rfl ⟨show 0 < 38 + i from by omega, (show T0ty 0 = (11, 0) from by decide)⟩ rfl dX11_init_162 ?_
      refine ar_iload_n (n := 0) C dX11_init_165 rfl rfl ?_
      refine ar_newG (c := 9) (T := Tr (38 + i) (rA 8 i 0 0)) C (show (cS X).heap.size + (37 + 1 * i) = V.2.2.1 + (38 + i) from by omega) (by decide) cwX9 (wA_t 46 (by decide +kernel) rfl) (wA_t 213 (by decide +kernel) rfl) (wA_t 11 (by decide +kernel) rfl) (FrH (by omega)) (kd_thing hi).2 (by decide) (by rw [hcR, hsR]; exact ⟨by omega, by simp only [nfc]; omega⟩) dX11_init_166 ?_
      refine ar_dup C dX11_init_169 rfl ?_
      refine ar_callI (T := gr (Tr (38 + i) (rA 8 i 0 0))) (k := 38 + i) (ar := []) (st := [.ref (38 + i), .int (nI i), .ref 6]) C lkX11_88 (c_thing (gr (Tr (38 + i) (rA 8 i 0 0))).2.2 (mA 8 i 0) (n := 38 + i + 1) (k := 38 + i) (by omega) (kd_thing hi).2 (by omega) (Fr_gr (FrH (by omega)))) (by decide) rfl (Nat.le_of_ble_eq_true rfl) rfl (by rw [hcR, hsR]; exact ⟨by omega, by simp only [nfc]; omega⟩) dX11_init_170 (fun v1 T1 M1 hp => ?_)
      obtain ⟨rfl, rfl, rfl⟩ := hp
      show AW X V mX11_init.2.2.1 (gr (Tr (38 + i) (rA 8 i 0 0))) (wi (mA 8 i 0) (38 + i) 2 1) (37 + 1 * i + 1 + 0) (942 + 3 * i + 3 + 0) _ 173 [(1, .int (nI i)), (0, .ref 0)] [.ref (38 + i), .int (nI i), .ref 6]
      refine ar_aastG (T := gr (Tr (38 + i) (rA 8 i 0 0))) (k := 6) (n := 24) (t := 3) (j := i) (r := 38 + i) (ci := 9) C (show (cS X).heap.size + (37 + 1 * i + 1 + 0) = V.2.2.1 + (38 + i + 1 + 0) from by omega) ⟨show 6 < 38 + i + 1 + 0 from by omega, (show T0ty 6 = (3 + 20, 24) from by decide)⟩ (by decide) (by decide) rfl ⟨show 38 + i < 38 + i + 1 + 0 from by omega, (kd_thing hi).2⟩ rfl (by omega) (by decide) dX11_init_173 ?_
      refine ar_iinc (n := 0) (v := nI (i + 1)) (als' := [(1, .int (nI (i + 1))), (0, .ref 0)]) C dX11_init_174 rfl (nI_1 _) (by decide) rfl ?_
      refine ar_goto (tgt := 155) C dX11_init_177 (by decide) ?_
      exact ar_world (TH_s hi) (MH_s hi) (by omega) (by omega) (ih (i + 1) (by omega) (by omega))
set_option maxHeartbeats 4000000 in
set_option maxRecDepth 100000 in
theorem l_ctrace {X : Ctx} {V : Vx} {Q : State → Prop} (C : Cx X V mX11_init 3) (hcR : (cR X).cells = 95) (hsR : (cR X).slots = 1622) (hE : (cS X).heap.size = V.2.2.1 + 1) (kk : AW X V mX11_init.2.2.1 (Tr (62 + 4 * 8) (rA 8 24 8 0)) (mA 8 24 0) (61 + 4 * 8) (1014 + 75 * 8) Q 207 [(1, .int (nI 8)), (0, .ref 0)] []) : ∀ (m i : Nat), i ≤ 8 → 8 - i < m → AW X V mX11_init.2.2.1 (Tr (62 + 4 * i) (rA 8 24 i 0)) (mA 8 24 0) (61 + 4 * i) (1014 + 75 * i) Q 182 [(1, .int (nI i)), (0, .ref 0)] [] := by
  intro m
  induction m with
  | zero => intro i _ h; exact absurd h (Nat.not_lt_zero _)
  | succ m ih =>
    intro i hi0 hmz
    refine ar_iload_n (n := 0) C dX11_init_182 rfl rfl ?_
    refine ar_bipush (v := 8) C dX11_init_183 (by decide) ?_
    refine ar_icmp_ge (tgt := 207) C dX11_init_185 (by decide) (fun c_1 => ?_) (fun c_1 => ?_)
    · have hi : i = 8 := Nat.le_antisymm hi0 (nat_le (a := 8) c_1 (by decide) (by omega))
      subst hi
      exact kk
    · have hi : i < 8 := nat_nle (a := 8) c_1 (by decide) (by omega)
      refine ar_aload_n (n := 1) C dX11_init_188 rfl rfl ?_
      refine ar_getr (T := Tr (62 + 4 * i) (rA 8 24 i 0)) (k := 0) (r := 8) C flX11_41 rfl ⟨show 0 < 62 + 4 * i from by omega, (show T0ty 0 = (11, 0) from by decide)⟩ rfl dX11_init_189 ?_
      refine ar_iload_n (n := 0) C dX11_init_192 rfl rfl ?_
      refine ar_newG (c := 10) (T := Tr (62 + 4 * i) (rA 8 24 i 0)) C (show (cS X).heap.size + (61 + 4 * i) = V.2.2.1 + (62 + 4 * i) from by omega) (by decide) cwX10 (wA_t 81 (by decide +kernel) rfl) (wA_t 239 (by decide +kernel) rfl) (wA_t 12 (by decide +kernel) rfl) (FrC (by omega)) (kd_trace hi).2 (by decide) (by rw [hcR, hsR]; exact ⟨by omega, by simp only [nfc]; omega⟩) dX11_init_193 ?_
      refine ar_dup C dX11_init_196 rfl ?_
      refine ar_callI (T := gr (Tr (62 + 4 * i) (rA 8 24 i 0))) (k := 62 + 4 * i) (ar := []) (st := [.ref (62 + 4 * i), .int (nI i), .ref 8]) C lkX11_89 (c_trace (gr (Tr (62 + 4 * i) (rA 8 24 i 0))).2.2 (mA 8 24 0) (n := 62 + 4 * i + 1) (k := 62 + 4 * i) (by omega) (kd_trace hi).2 (kd_has_n hi) (kd_tx_n hi) (kd_ty_n hi) (by omega) (Fr_gr (FrC (by omega)))) (by decide) rfl (Nat.le_of_ble_eq_true rfl) rfl (by rw [hcR, hsR]; exact ⟨by omega, by simp only [nfc]; omega⟩) dX11_init_197 (fun v1 T1 M1 hp => ?_)
      obtain ⟨rfl, rfl, rfl⟩ := hp
      show AW X V mX11_init.2.2.1 (wr (gr (wr (gr (wr (gr (gr (Tr (62 + 4 * i) (rA 8 24 i 0)))) (62 + 4 * i) 0 (some (62 + 4 * i + 1)))) (62 + 4 * i) 1 (some ((62 + 4 * i + 1 + 1))))) (62 + 4 * i) 2 (some ((62 + 4 * i + 1 + 2)))) ((mA 8 24 0)) (61 + 4 * i + 1 + 3) (1014 + 75 * i + 3 + 72) _ 200 [(1, .int (nI i)), (0, .ref 0)] [.ref (62 + 4 * i), .int (nI i), .ref 8]
      refine ar_aastG (T := wr (gr (wr (gr (wr (gr (gr (Tr (62 + 4 * i) (rA 8 24 i 0)))) (62 + 4 * i) 0 (some (62 + 4 * i + 1)))) (62 + 4 * i) 1 (some ((62 + 4 * i + 1 + 1))))) (62 + 4 * i) 2 (some ((62 + 4 * i + 1 + 2)))) (k := 8) (n := 8) (t := 4) (j := i) (r := 62 + 4 * i) (ci := 10) C (show (cS X).heap.size + (61 + 4 * i + 1 + 3) = V.2.2.1 + (62 + 4 * i + 1 + 3) from by omega) ⟨show 8 < 62 + 4 * i + 1 + 3 from by omega, (show T0ty 8 = (4 + 20, 8) from by decide)⟩ (by decide) (by decide) rfl ⟨show 62 + 4 * i < 62 + 4 * i + 1 + 3 from by omega, (kd_trace hi).2⟩ rfl (by omega) (by decide) dX11_init_200 ?_
      refine ar_iinc (n := 0) (v := nI (i + 1)) (als' := [(1, .int (nI (i + 1))), (0, .ref 0)]) C dX11_init_201 rfl (nI_1 _) (by decide) rfl ?_
      refine ar_goto (tgt := 182) C dX11_init_204 (by decide) ?_
      exact ar_world (TC_s2 hi) (rfl) (by omega) (by omega) (ih (i + 1) (by omega) (by omega))
set_option maxHeartbeats 4000000 in
set_option maxRecDepth 100000 in
theorem l_cstand {X : Ctx} {V : Vx} {Q : State → Prop} (C : Cx X V mX11_init 3) (hcR : (cR X).cells = 95) (hsR : (cR X).slots = 1622) (hE : (cS X).heap.size = V.2.2.1 + 1) (kk : AW X V mX11_init.2.2.1 (Tr (94 + 2) (rA 8 24 8 2)) (mA 8 24 2) (93 + 1 * 2) (1614 + 4 * 2) Q 233 [(1, .int (nI 2)), (0, .ref 0)] []) : ∀ (m i : Nat), i ≤ 2 → 2 - i < m → AW X V mX11_init.2.2.1 (Tr (94 + i) (rA 8 24 8 i)) (mA 8 24 i) (93 + 1 * i) (1614 + 4 * i) Q 209 [(1, .int (nI i)), (0, .ref 0)] [] := by
  intro m
  induction m with
  | zero => intro i _ h; exact absurd h (Nat.not_lt_zero _)
  | succ m ih =>
    intro i hi0 hmz
    refine ar_iload_n (n := 0) C dX11_init_209 rfl rfl ?_
    refine ar_iconst (v := 2) C dX11_init_210 (by decide) ?_
    refine ar_icmp_ge (tgt := 233) C dX11_init_211 (by decide) (fun c_1 => ?_) (fun c_1 => ?_)
    · have hi : i = 2 := Nat.le_antisymm hi0 (nat_le (a := 2) c_1 (by decide) (by omega))
      subst hi
      exact kk
    · have hi : i < 2 := nat_nle (a := 2) c_1 (by decide) (by omega)
      refine ar_aload_n (n := 1) C dX11_init_214 rfl rfl ?_
      refine ar_getr (T := Tr (94 + i) (rA 8 24 8 i)) (k := 0) (r := 17) C flX11_61 rfl ⟨show 0 < 94 + i from by omega, (show T0ty 0 = (11, 0) from by decide)⟩ rfl dX11_init_215 ?_
      refine ar_iload_n (n := 0) C dX11_init_218 rfl rfl ?_
      refine ar_newG (c := 8) (T := Tr (94 + i) (rA 8 24 8 i)) C (show (cS X).heap.size + (93 + 1 * i) = V.2.2.1 + (94 + i) from by omega) (by decide) cwX8 (wA_t 129 (by decide +kernel) rfl) (wA_t 146 (by decide +kernel) rfl) (wA_t 8 (by decide +kernel) rfl) (FrD (by omega)) (kd_stand hi).2 (by decide) (by rw [hcR, hsR]; exact ⟨by omega, by simp only [nfc]; omega⟩) dX11_init_219 ?_
      refine ar_dup C dX11_init_222 rfl ?_
      refine ar_callI (T := gr (Tr (94 + i) (rA 8 24 8 i))) (k := 94 + i) (ar := []) (st := [.ref (94 + i), .int (nI i), .ref 17]) C lkX11_72 (c_stand (gr (Tr (94 + i) (rA 8 24 8 i))).2.2 (mA 8 24 i) (n := 94 + i + 1) (k := 94 + i) (by omega) (kd_stand hi).2 (by omega) (Fr_gr (FrD (by omega)))) (by decide) rfl (Nat.le_of_ble_eq_true rfl) rfl (by rw [hcR, hsR]; exact ⟨by omega, by simp only [nfc]; omega⟩) dX11_init_223 (fun v1 T1 M1 hp => ?_)
      obtain ⟨rfl, rfl, rfl⟩ := hp
      show AW X V mX11_init.2.2.1 (gr (Tr (94 + i) (rA 8 24 8 i))) (wi (mA 8 24 i) (94 + i) 3 100) (93 + 1 * i + 1 + 0) (1614 + 4 * i + 4 + 0) _ 226 [(1, .int (nI i)), (0, .ref 0)] [.ref (94 + i), .int (nI i), .ref 17]
      refine ar_aastG (T := gr (Tr (94 + i) (rA 8 24 8 i))) (k := 17) (n := 2) (t := 5) (j := i) (r := 94 + i) (ci := 8) C (show (cS X).heap.size + (93 + 1 * i + 1 + 0) = V.2.2.1 + (94 + i + 1 + 0) from by omega) ⟨show 17 < 94 + i + 1 + 0 from by omega, (show T0ty 17 = (5 + 20, 2) from by decide)⟩ (by decide) (by decide) rfl ⟨show 94 + i < 94 + i + 1 + 0 from by omega, (kd_stand hi).2⟩ rfl (by omega) (by decide) dX11_init_226 ?_
      refine ar_iinc (n := 0) (v := nI (i + 1)) (als' := [(1, .int (nI (i + 1))), (0, .ref 0)]) C dX11_init_227 rfl (nI_1 _) (by decide) rfl ?_
      refine ar_goto (tgt := 209) C dX11_init_230 (by decide) ?_
      exact ar_world (TD_s hi) (MD_s hi) (by omega) (by omega) (ih (i + 1) (by omega) (by omega))
