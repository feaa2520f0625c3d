/-! THE STEADY WORLD: no cell is made any more; what a method answers (r) and leaves (P) -/
def AQ (mb : MB) (d : Nat) (ar : List Value) (M : Mm) (r : Option Value) (P : Mm → Prop) : Prop := AM mb d ar T0 M (fun r' T' M' => r' = r ∧ T' = T0 ∧ P M') 0 0
def AX (mb : MB) (d : Nat) (ar : List Value) (M : Mm) (r : Option Value) (M1 : Mm) : Prop := AM mb d ar T0 M (fun r' T' M' => r' = r ∧ T' = T0 ∧ M' = M1) 0 0
section STEADY
variable {X : Ctx} {V : Vx} {mb : MB} {d : Nat} {M M1 : Mm} {cl sl : Nat} {Q : State → Prop} {pc : Nat} {als : List (Nat × Value)} {st st0 : List Value} {idx n d' c k kn : Nat} {b : MB} {ar : List Value} {v : Value} {P : Mm → Prop}
theorem AQ_wk {r : Option Value} {P' : Mm → Prop} (h : AQ mb d ar M r P) (hP : ∀ M', P M' → P' M') : AQ mb d ar M r P' := by
  intro l V
  have h1 := h l V
  intro p e ha hc hk s m args below hf hfit hpre hK
  obtain ⟨t, o, a1, a2, a3, ⟨⟨⟨r1, T1, M1, b1, ⟨b2, b3, b4⟩, b5⟩, b6⟩, b7⟩⟩ := h1 p e ha hc hk s m args below hf hfit hpre hK
  exact ⟨t, o, a1, a2, a3, ⟨⟨⟨r1, T1, M1, b1, ⟨b2, b3, hP _ b4⟩, b5⟩, b6⟩, b7⟩⟩
theorem cS1q (C : Cx X V mb d) (L : SL mb.1.cls idx b n) (h : AQ b d' ar M (some v) P) (hdd : d' + 1 ≤ d) (hn : ar.length = n) (hst : (st.map fun v => v.category).sum ≤ 8) (hs0 : st0 = ar.reverse ++ st) (hd : decode mb.2.1 pc = .ok (.invokestatic idx, 3)) (kk : ∀ M', P M' → AW X V mb.2.2.1 T0 M' 0 0 Q (pc + 3) als (v :: st)) : AW X V mb.2.2.1 T0 M 0 0 Q pc als st0 :=
  ar_callS C L h hdd hn hst hs0 ⟨Nat.zero_le _, Nat.zero_le _⟩ hd (fun r T' M' hp => by obtain ⟨rfl, rfl, hP⟩ := hp; exact kk M' hP)
theorem cS1 (C : Cx X V mb d) (L : SL mb.1.cls idx b n) (h : AX b d' ar M (some v) M1) (hdd : d' + 1 ≤ d) (hn : ar.length = n) (hst : (st.map fun v => v.category).sum ≤ 8) (hs0 : st0 = ar.reverse ++ st) (hd : decode mb.2.1 pc = .ok (.invokestatic idx, 3)) (kk : AW X V mb.2.2.1 T0 M1 0 0 Q (pc + 3) als (v :: st)) : AW X V mb.2.2.1 T0 M 0 0 Q pc als st0 :=
  ar_callS C L h hdd hn hst hs0 ⟨Nat.zero_le _, Nat.zero_le _⟩ hd (fun r T' M' hp => by obtain ⟨rfl, rfl, rfl⟩ := hp; exact kk)
theorem cV1q (C : Cx X V mb d) (L : VL mb.1.cls idx b n c) (K : KD T0 k c kn) (h : AQ b d' (.ref k :: ar) M (some v) P) (hdd : d' + 1 ≤ d) (hn : ar.length = n) (hst : (st.map fun v => v.category).sum ≤ 8) (hs0 : st0 = ar.reverse ++ .ref k :: st) (hd : decode mb.2.1 pc = .ok (.invokevirtual idx, 3)) (kk : ∀ M', P M' → AW X V mb.2.2.1 T0 M' 0 0 Q (pc + 3) als (v :: st)) : AW X V mb.2.2.1 T0 M 0 0 Q pc als st0 :=
  ar_callV C L K h hdd hn hst hs0 ⟨Nat.zero_le _, Nat.zero_le _⟩ hd (fun r T' M' hp => by obtain ⟨rfl, rfl, hP⟩ := hp; exact kk M' hP)
theorem cV1 (C : Cx X V mb d) (L : VL mb.1.cls idx b n c) (K : KD T0 k c kn) (h : AX b d' (.ref k :: ar) M (some v) M1) (hdd : d' + 1 ≤ d) (hn : ar.length = n) (hst : (st.map fun v => v.category).sum ≤ 8) (hs0 : st0 = ar.reverse ++ .ref k :: st) (hd : decode mb.2.1 pc = .ok (.invokevirtual idx, 3)) (kk : AW X V mb.2.2.1 T0 M1 0 0 Q (pc + 3) als (v :: st)) : AW X V mb.2.2.1 T0 M 0 0 Q pc als st0 :=
  ar_callV C L K h hdd hn hst hs0 ⟨Nat.zero_le _, Nat.zero_le _⟩ hd (fun r T' M' hp => by obtain ⟨rfl, rfl, rfl⟩ := hp; exact kk)
theorem cV0q (C : Cx X V mb d) (L : VL mb.1.cls idx b n c) (K : KD T0 k c kn) (h : AQ b d' (.ref k :: ar) M none P) (hdd : d' + 1 ≤ d) (hn : ar.length = n) (hst : (st.map fun v => v.category).sum ≤ 8) (hs0 : st0 = ar.reverse ++ .ref k :: st) (hd : decode mb.2.1 pc = .ok (.invokevirtual idx, 3)) (kk : ∀ M', P M' → AW X V mb.2.2.1 T0 M' 0 0 Q (pc + 3) als st) : AW X V mb.2.2.1 T0 M 0 0 Q pc als st0 :=
  ar_callV C L K h hdd hn hst hs0 ⟨Nat.zero_le _, Nat.zero_le _⟩ hd (fun r T' M' hp => by obtain ⟨rfl, rfl, hP⟩ := hp; exact kk M' hP)
theorem cV0 (C : Cx X V mb d) (L : VL mb.1.cls idx b n c) (K : KD T0 k c kn) (h : AX b d' (.ref k :: ar) M none M1) (hdd : d' + 1 ≤ d) (hn : ar.length = n) (hst : (st.map fun v => v.category).sum ≤ 8) (hs0 : st0 = ar.reverse ++ .ref k :: st) (hd : decode mb.2.1 pc = .ok (.invokevirtual idx, 3)) (kk : AW X V mb.2.2.1 T0 M1 0 0 Q (pc + 3) als st) : AW X V mb.2.2.1 T0 M 0 0 Q pc als st0 :=
  ar_callV C L K h hdd hn hst hs0 ⟨Nat.zero_le _, Nat.zero_le _⟩ hd (fun r T' M' hp => by obtain ⟨rfl, rfl, rfl⟩ := hp; exact kk)
end STEADY
/-- a contract out of a walk, for a method that the machine doesn't override (also of java/lang/Math) -/
theorem AM_ofF {mb : MB} {d : Nat} {ar : List Value} {T : Tt} {M : Mm} {post : Option Value → Tt → Mm → Prop} {mc ms : Nat} (hy : plainFor mb.1 = true) (hlen : (lg_sl ar).length ≤ mb.2.2.1)
    (body : ∀ (X : Ctx) (V : Vx), Cx X V mb d → (cR X).cells = mc → (cR X).slots = ms → AW X V mb.2.2.1 T M 0 0 (QM X V post mc ms) 0 (lv_args 0 ar) []) : AM mb d ar T M post mc ms := by
  intro l V
  refine MetFree.of_bodySF (code := mb.2.1) (maxLocals := mb.2.2.1) (ret := mb.2.2.2) hy ?_ ?_
  · intro args s m h hn
    obtain ⟨meth, c, h1, h2, h3, h4, h5, h6, -, -⟩ := Cond.code_spec hn (atoms_spec (ws := wsm mb) h _ List.mem_cons_self)
    exact ⟨meth, c, h1, h2, h3, h4, h5, h6⟩
  · intro p e s m args below meth c s₁ B hml hv _
    have hh0 : s₁.heap = s.heap := by rw [B.state]; rfl
    obtain ⟨rfl, hH, hK⟩ := hv
    have hts := atoms_spec (ws := wsm mb) B.pre
    have hown : s.vm.findClass mb.1.cls = some m.cls := findClass_of_methodNamed B.named
    have hin : meth.name = mb.1.name := (name_of_methodNamed B.named B.method).1
    have C : Cx (p, l, e, rmd d mc ms, s, m, (tvs V ar).toArray, below, meth, c) V mb d := ⟨B.exec, B.bytes, hml, hown, fun w hw => hts w (List.mem_cons_of_mem _ hw), hK, B.returns, B.notSynchronized, hin, Nat.le_refl _, Nat.le_refl _⟩
    have hl := lv_entry (tvs V ar) (n := mb.2.2.1) (by rw [lg_len]; exact hlen)
    rw [lv_args_tv] at hl
    have K := body _ V C rfl rfl s.heap [] _ hH va_S.rf hl
    have e0 := lg_entry_eq m (tvs V ar) mb.2.2.1
    rw [e0]
    obtain ⟨t, a1, o, b1, b2, b3⟩ := K s₁ hh0 (Stand.of_body B)
    exact ⟨t, o, a1, b1, b2, ⟨b3.1, b3.2⟩⟩
theorem lc_3 (x y : Int64) : (y < x ∧ lg_cmp x y = 1) ∨ (x = y ∧ lg_cmp x y = 0) ∨ (x < y ∧ lg_cmp x y = -1) := by
  unfold lg_cmp
  by_cases h1 : y < x
  · exact Or.inl ⟨h1, if_pos h1⟩
  · by_cases h2 : x = y
    · exact Or.inr (Or.inl ⟨h2, by rw [if_neg h1, if_pos h2]⟩)
    · refine Or.inr (Or.inr ⟨?_, by rw [if_neg h1, if_neg h2]⟩)
      rw [Int64.lt_iff_toInt_lt] at h1 ⊢
      have h3 : x.toInt ≠ y.toInt := fun q => h2 (Int64.toInt_inj.mp q)
      omega
theorem lc_lt (x y : Int64) : lg_cmp x y < 0 ↔ x < y := by
  rcases lc_3 x y with ⟨h, e⟩ | ⟨h, e⟩ | ⟨h, e⟩ <;> rw [e] <;> rw [Int64.lt_iff_toInt_lt] at * <;> first | exact ⟨fun q => absurd q (by decide), fun q => by omega⟩ | exact ⟨fun _ => h, fun _ => by decide⟩ | exact ⟨fun q => absurd q (by decide), fun q => by rw [h] at q; omega⟩
theorem lc_gt (x y : Int64) : 0 < lg_cmp x y ↔ y < x := by
  rcases lc_3 x y with ⟨h, e⟩ | ⟨h, e⟩ | ⟨h, e⟩ <;> rw [e] <;> rw [Int64.lt_iff_toInt_lt] at * <;> first | exact ⟨fun q => absurd q (by decide), fun q => by omega⟩ | exact ⟨fun _ => h, fun _ => by decide⟩ | exact ⟨fun q => absurd q (by decide), fun q => by rw [h] at q; omega⟩
theorem lc_eq (x y : Int64) : lg_cmp x y = 0 ↔ x = y := by
  rcases lc_3 x y with ⟨h, e⟩ | ⟨h, e⟩ | ⟨h, e⟩ <;> rw [e]
  · exact ⟨fun q => absurd q (by decide), fun q => by rw [Int64.lt_iff_toInt_lt, q] at h; omega⟩
  · exact ⟨fun _ => h, fun _ => rfl⟩
  · exact ⟨fun q => absurd q (by decide), fun q => by rw [Int64.lt_iff_toInt_lt, q] at h; omega⟩
theorem lc_ge (x y : Int64) : 0 ≤ lg_cmp x y ↔ ¬ x < y := by
  rw [← lc_lt]
  rw [Int32.lt_iff_toInt_lt, Int32.le_iff_toInt_le]
  exact ⟨fun a b => by omega, fun a => by omega⟩
theorem lc_le (x y : Int64) : lg_cmp x y ≤ 0 ↔ ¬ y < x := by
  rw [← lc_gt]
  rw [Int32.lt_iff_toInt_lt, Int32.le_iff_toInt_le]
  exact ⟨fun a b => by omega, fun a => by omega⟩
section LC
variable {X : Ctx} {V : Vx} {mb : MB} {d : Nat} {T : Tt} {M : Mm} {cl sl : Nat} {Q : State → Prop} {pc : Nat} {als : List (Nat × Value)} {st : List Value} {x y : Int64} {off : Int} {tgt : Nat}
theorem ar_lc_lt (C : Cx X V mb d) (h1 : decode mb.2.1 pc = .ok (.lcmp, 1)) (h2 : decode mb.2.1 (pc + 1) = .ok (.ifCond .lt off, 3)) (ht : ((pc + 1 : Nat) : Int) + off = (tgt : Int)) (kt : x < y → AW X V mb.2.2.1 T M cl sl Q tgt als st) (kf : ¬ x < y → AW X V mb.2.2.1 T M cl sl Q (pc + 1 + 3) als st) : AW X V mb.2.2.1 T M cl sl Q pc als (.long y :: .long x :: st) := ar_lcmp C h1 (ar_if_lt C h2 ht (fun c => kt ((lc_lt x y).mp c)) (fun c => kf (fun q => c ((lc_lt x y).mpr q))))
theorem ar_lc_gt (C : Cx X V mb d) (h1 : decode mb.2.1 pc = .ok (.lcmp, 1)) (h2 : decode mb.2.1 (pc + 1) = .ok (.ifCond .gt off, 3)) (ht : ((pc + 1 : Nat) : Int) + off = (tgt : Int)) (kt : y < x → AW X V mb.2.2.1 T M cl sl Q tgt als st) (kf : ¬ y < x → AW X V mb.2.2.1 T M cl sl Q (pc + 1 + 3) als st) : AW X V mb.2.2.1 T M cl sl Q pc als (.long y :: .long x :: st) := ar_lcmp C h1 (ar_if_gt C h2 ht (fun c => kt ((lc_gt x y).mp c)) (fun c => kf (fun q => c ((lc_gt x y).mpr q))))
theorem ar_lc_ge (C : Cx X V mb d) (h1 : decode mb.2.1 pc = .ok (.lcmp, 1)) (h2 : decode mb.2.1 (pc + 1) = .ok (.ifCond .ge off, 3)) (ht : ((pc + 1 : Nat) : Int) + off = (tgt : Int)) (kt : ¬ x < y → AW X V mb.2.2.1 T M cl sl Q tgt als st) (kf : x < y → AW X V mb.2.2.1 T M cl sl Q (pc + 1 + 3) als st) : AW X V mb.2.2.1 T M cl sl Q pc als (.long y :: .long x :: st) := ar_lcmp C h1 (ar_if_ge C h2 ht (fun c => kt ((lc_ge x y).mp c)) (fun c => kf (Classical.byContradiction fun q => c ((lc_ge x y).mpr q))))
theorem ar_lc_le (C : Cx X V mb d) (h1 : decode mb.2.1 pc = .ok (.lcmp, 1)) (h2 : decode mb.2.1 (pc + 1) = .ok (.ifCond .le off, 3)) (ht : ((pc + 1 : Nat) : Int) + off = (tgt : Int)) (kt : ¬ y < x → AW X V mb.2.2.1 T M cl sl Q tgt als st) (kf : y < x → AW X V mb.2.2.1 T M cl sl Q (pc + 1 + 3) als st) : AW X V mb.2.2.1 T M cl sl Q pc als (.long y :: .long x :: st) := ar_lcmp C h1 (ar_if_le C h2 ht (fun c => kt ((lc_le x y).mp c)) (fun c => kf (Classical.byContradiction fun q => c ((lc_le x y).mpr q))))
theorem ar_lc_eq (C : Cx X V mb d) (h1 : decode mb.2.1 pc = .ok (.lcmp, 1)) (h2 : decode mb.2.1 (pc + 1) = .ok (.ifCond .eq off, 3)) (ht : ((pc + 1 : Nat) : Int) + off = (tgt : Int)) (kt : x = y → AW X V mb.2.2.1 T M cl sl Q tgt als st) (kf : ¬ x = y → AW X V mb.2.2.1 T M cl sl Q (pc + 1 + 3) als st) : AW X V mb.2.2.1 T M cl sl Q pc als (.long y :: .long x :: st) := ar_lcmp C h1 (ar_if_eq C h2 ht (fun c => kt ((lc_eq x y).mp c)) (fun c => kf (fun q => c ((lc_eq x y).mpr q))))
theorem ar_lc_ne (C : Cx X V mb d) (h1 : decode mb.2.1 pc = .ok (.lcmp, 1)) (h2 : decode mb.2.1 (pc + 1) = .ok (.ifCond .ne off, 3)) (ht : ((pc + 1 : Nat) : Int) + off = (tgt : Int)) (kt : ¬ x = y → AW X V mb.2.2.1 T M cl sl Q tgt als st) (kf : x = y → AW X V mb.2.2.1 T M cl sl Q (pc + 1 + 3) als st) : AW X V mb.2.2.1 T M cl sl Q pc als (.long y :: .long x :: st) := ar_lcmp C h1 (ar_if_ne C h2 ht (fun c => kt (fun q => c ((lc_eq x y).mpr q))) (fun c => kf ((lc_eq x y).mp c)))
end LC
