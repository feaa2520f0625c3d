/-! THE STEADY WORLD: no cell is made any more; what a method answers (r) and leaves (P) -/
def AQ (mb : MB) (d : Nat) (ar : List Value) (M : Mm) (r : Option Value) (P : Mm → Prop) : Prop := AM mb d ar T0 M (fun r' T' M' => r' = r ∧ T' = T0 ∧ P M') 0 0
def AX (mb : MB) (d : Nat) (ar : List Value) (M : Mm) (r : Option Value) (M1 : Mm) : Prop := AM mb d ar T0 M (fun r' T' M' => r' = r ∧ T' = T0 ∧ M' = M1) 0 0
section STEADY
variable {X : Ctx} {V : Vx} {mb : MB} {d : Nat} {M M1 : Mm} {cl sl : Nat} {Q : State → Prop} {pc : Nat} {als : List (Nat × Value)} {st st0 : List Value} {idx n d' c k kn : Nat} {b : MB} {ar : List Value} {v : Value} {P : Mm → Prop}
theorem AQ_wk {r : Option Value} {P' : Mm → Prop} (h : AQ mb d ar M r P) (hP : ∀ M', P M' → P' M') : AQ mb d ar M r P' := by
  intro l V
  have h1 := h l V
  intro p e ha hc hk s m args below hf hfit hpre hK
  obtain ⟨t, o, a1, a2, a3, ⟨⟨⟨r1, T1, M1, b1, ⟨b2, b3, b4⟩, b5⟩, b6⟩, b7⟩⟩ := h1 p e ha hc hk s m args below hf hfit hpre hK
  exact ⟨t, o, a1, a2, a3, ⟨⟨⟨r1, T1, M1, b1, ⟨b2, b3, hP _ b4⟩, b5⟩, b6⟩, b7⟩⟩
theorem cS1q (C : Cx X V mb d) (L : SL mb.1.cls idx b n) (h : AQ b d' ar M (some v) P) (hdd : d' + 1 ≤ d) (hn : ar.length = n) (hst : (st.map fun v => v.category).sum ≤ 8) (hs0 : st0 = ar.reverse ++ st) (hd : decode mb.2.1 pc = .ok (.invokestatic idx, 3)) (kk : ∀ M', P M' → AW X V mb.2.2.1 T0 M' 0 0 Q (pc + 3) als (v :: st)) : AW X V mb.2.2.1 T0 M 0 0 Q pc als st0 :=
  ar_callS C L h hdd hn hst hs0 ⟨Nat.zero_le _, Nat.zero_le _⟩ hd (fun r T' M' hp => by obtain ⟨rfl, rfl, hP⟩ := hp; exact kk M' hP)
theorem cS1 (C : Cx X V mb d) (L : SL mb.1.cls idx b n) (h : AX b d' ar M (some v) M1) (hdd : d' + 1 ≤ d) (hn : ar.length = n) (hst : (st.map fun v => v.category).sum ≤ 8) (hs0 : st0 = ar.reverse ++ st) (hd : decode mb.2.1 pc = .ok (.invokestatic idx, 3)) (kk : AW X V mb.2.2.1 T0 M1 0 0 Q (pc + 3) als (v :: st)) : AW X V mb.2.2.1 T0 M 0 0 Q pc als st0 :=
  ar_callS C L h hdd hn hst hs0 ⟨Nat.zero_le _, Nat.zero_le _⟩ hd (fun r T' M' hp => by obtain ⟨rfl, rfl, rfl⟩ := hp; exact kk)
theorem cV1q (C : Cx X V mb d) (L : VL mb.1.cls idx b n c) (K : KD T0 k c kn) (h : AQ b d' (.ref k :: ar) M (some v) P) (hdd : d' + 1 ≤ d) (hn : ar.length = n) (hst : (st.map fun v => v.category).sum ≤ 8) (hs0 : st0 = ar.reverse ++ .ref k :: st) (hd : decode mb.2.1 pc = .ok (.invokevirtual idx, 3)) (kk : ∀ M', P M' → AW X V mb.2.2.1 T0 M' 0 0 Q (pc + 3) als (v :: st)) : AW X V mb.2.2.1 T0 M 0 0 Q pc als st0 :=
  ar_callV C L K h hdd hn hst hs0 ⟨Nat.zero_le _, Nat.zero_le _⟩ hd (fun r T' M' hp => by obtain ⟨rfl, rfl, hP⟩ := hp; exact kk M' hP)
theorem cV1 (C : Cx X V mb d) (L : VL mb.1.cls idx b n c) (K : KD T0 k c kn) (h : AX b d' (.ref k :: ar) M (some v) M1) (hdd : d' + 1 ≤ d) (hn : ar.length = n) (hst : (st.map fun v => v.category).sum ≤ 8) (hs0 : st0 = ar.reverse ++ .ref k :: st) (hd : decode mb.2.1 pc = .ok (.invokevirtual idx, 3)) (kk : AW X V mb.2.2.1 T0 M1 0 0 Q (pc + 3) als (v :: st)) : AW X V mb.2.2.1 T0 M 0 0 Q pc als st0 :=
  ar_callV C L K h hdd hn hst hs0 ⟨Nat.zero_le _, Nat.zero_le _⟩ hd (fun r T' M' hp => by obtain ⟨rfl, rfl, rfl⟩ := hp; exact kk)
theorem cV0q (C : Cx X V mb d) (L : VL mb.1.cls idx b n c) (K : KD T0 k c kn) (h : AQ b d' (.ref k :: ar) M none P) (hdd : d' + 1 ≤ d) (hn : ar.length = n) (hst : (st.map fun v => v.category).sum ≤ 8) (hs0 : st0 = ar.reverse ++ .ref k :: st) (hd : decode mb.2.1 pc = .ok (.invokevirtual idx, 3)) (kk : ∀ M', P M' → AW X V mb.2.2.1 T0 M' 0 0 Q (pc + 3) als st) : AW X V mb.2.2.1 T0 M 0 0 Q pc als st0 :=
  ar_callV C L K h hdd hn hst hs0 ⟨Nat.zero_le _, Nat.zero_le _⟩ hd (fun r T' M' hp => by obtain ⟨rfl, rfl, hP⟩ := hp; exact kk M' hP)
theorem cV0 (C : Cx X V mb d) (L : VL mb.1.cls idx b n c) (K : KD T0 k c kn) (h : AX b d' (.ref k :: ar) M none M1) (hdd : d' + 1 ≤ d) (hn : ar.length = n) (hst : (st.map fun v => v.category).sum ≤ 8) (hs0 : st0 = ar.reverse ++ .ref k :: st) (hd : decode mb.2.1 pc = .ok (.invokevirtual idx, 3)) (kk : AW X V mb.2.2.1 T0 M1 0 0 Q (pc + 3) als st) : AW X V mb.2.2.1 T0 M 0 0 Q pc als st0 :=
  ar_callV C L K h hdd hn hst hs0 ⟨Nat.zero_le _, Nat.zero_le _⟩ hd (fun r T' M' hp => by obtain ⟨rfl, rfl, rfl⟩ := hp; exact kk)
end STEADY
