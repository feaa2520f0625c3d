/-! THE LAW: its loop and its start -/
set_option maxHeartbeats 4000000 in
set_option maxRecDepth 100000 in
theorem law_loop {X : Ctx} {V : Vx} {meth : Method} {cl sl : Nat} {Q : State → Prop} (C : Cx X V (mL meth) 9) {L : Nat} {xs : Nat → Int32} (S : Sc X V L xs) (hroom : cl ≤ (cR X).cells ∧ sl ≤ (cR X).slots) (kend : ∀ M als, AW X V 4 T0 M cl sl Q 1514 als []) : ∀ (m i : Nat) (M : Mm), i ≤ L + 8 → Rel M → L + 8 - i < m → AW X V 4 T0 M cl sl Q 18 [(3, .int (nI i)), (2, .ref 96), (1, .ref 0), (0, .retAddr 0)] [] := by
  intro m
  induction m with
  | zero => intro i M _ _ h; exact absurd h (Nat.not_lt_zero _)
  | succ m ih =>
    intro i M hi0 hR hmz
    have hL := S.2.2.2
    refine ar_iload_n (n := 0) C dL_law_18 rfl rfl ?_
    refine ar_aload_nX (n := 3) C dL_law_19 rfl rfl ?_
    refine ar_slen C S dL_law_20 ?_
    refine ar_bipush (v := 8) C dL_law_21 (by decide) ?_
    refine ar_isub C dL_law_23 ?_
    refine ar_icmp_gt (tgt := 1514) C dL_law_24 (by decide) (fun _ => kend M _) (fun c_1 => ?_)
    have hi : i + 8 ≤ L := by
      rw [Int32.lt_iff_toInt_lt, show (nI L - 8).toInt = (L : Int) - 8 from pk_sub_toInt (a := L) (b := 8) (by omega) (by omega), nI_toInt (by omega)] at c_1
      omega
    have tail : ∀ M1, Rel M1 → AW X V 4 T0 M1 cl sl Q 1508 [(3, .int (nI i)), (2, .ref 96), (1, .ref 0), (0, .retAddr 0)] [] := fun M1 h1 => by
      refine ar_iinc (n := 0) (v := nI (i + 8)) (als' := [(3, .int (nI (i + 8))), (2, .ref 96), (1, .ref 0), (0, .retAddr 0)]) C dL_law_1508 rfl (show nI i + 8 = nI (i + 8) from nI_add i 8) (show 3 < 4 by decide) rfl ?_
      refine ar_goto (tgt := 18) C dL_law_1511 (by decide) ?_
      exact ih (i + 8) M1 (by omega) h1 (by omega)
    refine ar_aload_nX (n := 3) C dL_law_27 rfl rfl ?_
    refine ar_iload_n (n := 0) C dL_law_28 rfl rfl ?_
    refine ar_sld (j := i) C S rfl (by omega) dL_law_29 ?_
    refine ar_bipush (v := 63) C dL_law_30 (by decide) ?_
    refine ar_iand C dL_law_32 ?_
    obtain ⟨j, hj, ej⟩ := pk_andE (xs i) (m := 63) 6 (by decide)
    refine ar_topi (nI j) ej ?_
    rcases (show j = 0 ∨ j = 1 ∨ j = 2 ∨ j = 3 ∨ j = 4 ∨ j = 5 ∨ j = 6 ∨ j = 7 ∨ j = 8 ∨ j = 9 ∨ j = 10 ∨ j = 11 ∨ j = 12 ∨ j = 13 ∨ j = 14 ∨ j = 15 ∨ j = 16 ∨ j = 17 ∨ j = 18 ∨ j = 19 ∨ j = 20 ∨ j = 21 ∨ j = 22 ∨ j = 23 ∨ j = 24 ∨ j = 25 ∨ j = 26 ∨ j = 27 ∨ j = 28 ∨ j = 29 ∨ j = 30 ∨ j = 31 ∨ j = 32 ∨ 33 ≤ j by omega) with rfl | rfl | rfl | rfl | rfl | rfl | rfl | rfl | rfl | rfl | rfl | rfl | rfl | rfl | rfl | rfl | rfl | rfl | rfl | rfl | rfl | rfl | rfl | rfl | rfl | rfl | rfl | rfl | rfl | rfl | rfl | rfl | rfl | h33
    · refine ar_tableIn (off := 147) (tgt := 180) C dL_law_33 (by decide) (by decide) rfl (by decide) ?_
      exact lcs_0 C S hroom hR hi tail
    · refine ar_tableIn (off := 190) (tgt := 223) C dL_law_33 (by decide) (by decide) rfl (by decide) ?_
      exact lcs_1 C S hroom hR hi tail
    · refine ar_tableIn (off := 233) (tgt := 266) C dL_law_33 (by decide) (by decide) rfl (by decide) ?_
      exact lcs_2 C S hroom hR hi tail
    · refine ar_tableIn (off := 296) (tgt := 329) C dL_law_33 (by decide) (by decide) rfl (by decide) ?_
      exact lcs_3 C S hroom hR hi tail
    · refine ar_tableIn (off := 319) (tgt := 352) C dL_law_33 (by decide) (by decide) rfl (by decide) ?_
      exact lcs_4 C S hroom hR hi tail
    · refine ar_tableIn (off := 352) (tgt := 385) C dL_law_33 (by decide) (by decide) rfl (by decide) ?_
      exact lcs_5 C S hroom hR hi tail
    · refine ar_tableIn (off := 385) (tgt := 418) C dL_law_33 (by decide) (by decide) rfl (by decide) ?_
      exact lcs_6 C S hroom hR hi tail
    · refine ar_tableIn (off := 408) (tgt := 441) C dL_law_33 (by decide) (by decide) rfl (by decide) ?_
      exact lcs_7 C S hroom hR hi tail
    · refine ar_tableIn (off := 451) (tgt := 484) C dL_law_33 (by decide) (by decide) rfl (by decide) ?_
      exact lcs_8 C S hroom hR hi tail
    · refine ar_tableIn (off := 504) (tgt := 537) C dL_law_33 (by decide) (by decide) rfl (by decide) ?_
      exact lcs_9 C S hroom hR hi tail
    · refine ar_tableIn (off := 537) (tgt := 570) C dL_law_33 (by decide) (by decide) rfl (by decide) ?_
      exact lcs_10 C S hroom hR hi tail
    · refine ar_tableIn (off := 570) (tgt := 603) C dL_law_33 (by decide) (by decide) rfl (by decide) ?_
      exact lcs_11 C S hroom hR hi tail
    · refine ar_tableIn (off := 583) (tgt := 616) C dL_law_33 (by decide) (by decide) rfl (by decide) ?_
      exact lcs_12 C S hroom hR hi tail
    · refine ar_tableIn (off := 636) (tgt := 669) C dL_law_33 (by decide) (by decide) rfl (by decide) ?_
      exact lcs_13 C S hroom hR hi tail
    · refine ar_tableIn (off := 669) (tgt := 702) C dL_law_33 (by decide) (by decide) rfl (by decide) ?_
      exact lcs_14 C S hroom hR hi tail
    · refine ar_tableIn (off := 692) (tgt := 725) C dL_law_33 (by decide) (by decide) rfl (by decide) ?_
      exact lcs_15 C S hroom hR hi tail
    · refine ar_tableIn (off := 735) (tgt := 768) C dL_law_33 (by decide) (by decide) rfl (by decide) ?_
      exact lcs_16 C S hroom hR hi tail
    · refine ar_tableIn (off := 778) (tgt := 811) C dL_law_33 (by decide) (by decide) rfl (by decide) ?_
      exact lcs_17 C S hroom hR hi tail
    · refine ar_tableIn (off := 811) (tgt := 844) C dL_law_33 (by decide) (by decide) rfl (by decide) ?_
      exact lcs_18 C S hroom hR hi tail
    · refine ar_tableIn (off := 854) (tgt := 887) C dL_law_33 (by decide) (by decide) rfl (by decide) ?_
      exact lcs_19 C S hroom hR hi tail
    · refine ar_tableIn (off := 917) (tgt := 950) C dL_law_33 (by decide) (by decide) rfl (by decide) ?_
      exact lcs_20 C S hroom hR hi tail
    · refine ar_tableIn (off := 961) (tgt := 994) C dL_law_33 (by decide) (by decide) rfl (by decide) ?_
      exact lcs_21 C S hroom hR hi tail
    · refine ar_tableIn (off := 1005) (tgt := 1038) C dL_law_33 (by decide) (by decide) rfl (by decide) ?_
      exact lcs_22 C S hroom hR hi tail
    · refine ar_tableIn (off := 1059) (tgt := 1092) C dL_law_33 (by decide) (by decide) rfl (by decide) ?_
      exact lcs_23 C S hroom hR hi tail
    · refine ar_tableIn (off := 1146) (tgt := 1179) C dL_law_33 (by decide) (by decide) rfl (by decide) ?_
      exact lcs_24 C S hroom hR hi tail
    · refine ar_tableIn (off := 1221) (tgt := 1254) C dL_law_33 (by decide) (by decide) rfl (by decide) ?_
      exact lcs_25 C S hroom hR hi tail
    · refine ar_tableIn (off := 1274) (tgt := 1307) C dL_law_33 (by decide) (by decide) rfl (by decide) ?_
      exact lcs_26 C S hroom hR hi tail
    · refine ar_tableIn (off := 1327) (tgt := 1360) C dL_law_33 (by decide) (by decide) rfl (by decide) ?_
      exact lcs_27 C S hroom hR hi tail
    · refine ar_tableIn (off := 1350) (tgt := 1383) C dL_law_33 (by decide) (by decide) rfl (by decide) ?_
      exact lcs_28 C S hroom hR hi tail
    · refine ar_tableIn (off := 1383) (tgt := 1416) C dL_law_33 (by decide) (by decide) rfl (by decide) ?_
      exact lcs_29 C S hroom hR hi tail
    · refine ar_tableIn (off := 1416) (tgt := 1449) C dL_law_33 (by decide) (by decide) rfl (by decide) ?_
      exact lcs_30 C S hroom hR hi tail
    · refine ar_tableIn (off := 1439) (tgt := 1472) C dL_law_33 (by decide) (by decide) rfl (by decide) ?_
      exact lcs_31 C S hroom hR hi tail
    · refine ar_tableIn (off := 1462) (tgt := 1495) C dL_law_33 (by decide) (by decide) rfl (by decide) ?_
      exact lcs_32 C S hroom hR hi tail
    · refine ar_tableOut (tgt := 1508) C dL_law_33 (Or.inr (by rw [nI_toInt (by omega)]; omega)) (by decide) ?_
      exact tail M hR
theorem cw_all : ∀ c, c < 13 → ∀ w ∈ u_ws (clsC c) (clsF c) (nfc c), w ∈ wA := by
  intro c h
  match c, h with
  | 0, _ => exact cwX0 | 1, _ => exact cwX1 | 2, _ => exact cwX2 | 3, _ => exact cwX3 | 4, _ => exact cwX4 | 5, _ => exact cwX5 | 6, _ => exact cwX6 | 7, _ => exact cwX7 | 8, _ => exact cwX8 | 9, _ => exact cwX9 | 10, _ => exact cwX10 | 11, _ => exact cwX11 | 12, _ => exact cwX12
theorem ins_all : ∀ c, c < 13 → Cond.instantiable (clsC c) (nfc c) ∈ wA := by
  intro c h
  match c, h with
  | 0, _ => exact (wA_t 173 (by decide +kernel) rfl) | 1, _ => exact (wA_t 84 (by decide +kernel) rfl) | 2, _ => exact (wA_t 49 (by decide +kernel) rfl) | 3, _ => exact (wA_t 111 (by decide +kernel) rfl) | 4, _ => exact (wA_t 27 (by decide +kernel) rfl) | 5, _ => exact (wA_t 90 (by decide +kernel) rfl) | 6, _ => exact (wA_t 196 (by decide +kernel) rfl) | 7, _ => exact (wA_t 132 (by decide +kernel) rfl) | 8, _ => exact (wA_t 146 (by decide +kernel) rfl) | 9, _ => exact (wA_t 213 (by decide +kernel) rfl) | 10, _ => exact (wA_t 239 (by decide +kernel) rfl) | 11, _ => exact (wA_t 17 (by decide +kernel) rfl) | 12, _ => exact (wA_t 793 (by decide +kernel) rfl)
set_option maxHeartbeats 1000000 in
set_option maxRecDepth 100000 in
theorem law_V {s : State} {b : Nat} (htA : ∀ w ∈ lw_tbl, w.before #[Value.ref b] s = true) (hgv : (Jvm.Cond.and given_1 narrow_1).before #[Value.ref b] s = true) : ∃ V : Vx, V.2.2.1 = s.heap.size ∧ V.2.2.2 0 = b ∧ Ks V s := by
  have htw : ∀ w ∈ wA, w.before #[Value.ref b] s = true := fun w hw => htA w (List.mem_filter.mp hw).1
  have hs := flat_of_before _ hgv
  have hk : ∀ c, ∃ q : ClassId × (Nat → Nat), c < 13 → u_Kn s (clsC c) (clsF c) (nfc c) q.1 q.2 := fun c => by
    by_cases h : c < 13
    · obtain ⟨cC, iS, hK⟩ := u_known (n := nfc c) htw (cw_all c h) (htw _ (ins_all c h))
      exact ⟨(cC, iS), fun _ => hK⟩
    · exact ⟨(0, fun _ => 0), fun q => absurd q h⟩
  have hi : (Cond.arrayClass .int).before #[Value.ref b] s = true := (htA _ (List.mem_append_right _ (List.mem_of_getElem? (i := 45) (by decide +kernel))))
  have hz : (Cond.arrayClass .boolean).before #[Value.ref b] s = true := (htA _ (List.mem_append_right _ (List.mem_of_getElem? (i := 260) (by decide +kernel))))
  obtain ⟨a0, k0, p0, x0, y0, z0⟩ := Cond.arrayClass_spec hi
  obtain ⟨a1, k1, p1, x1, y1, z1⟩ := Cond.arrayClass_spec hz
  have ho2 : (Cond.arrayOver (.object RX6)).before #[Value.ref b] s = true := (htA _ (List.mem_append_right _ (List.mem_of_getElem? (i := 25) (by decide +kernel))))
  obtain ⟨p2, a2, k2, x2, -, y2, z2, u2⟩ := Cond.arrayOver_spec ho2
  have ho3 : (Cond.arrayOver (.object RX9)).before #[Value.ref b] s = true := (htA _ (List.mem_append_right _ (List.mem_of_getElem? (i := 47) (by decide +kernel))))
  obtain ⟨p3, a3, k3, x3, -, y3, z3, u3⟩ := Cond.arrayOver_spec ho3
  have ho4 : (Cond.arrayOver (.object RX10)).before #[Value.ref b] s = true := (htA _ (List.mem_append_right _ (List.mem_of_getElem? (i := 82) (by decide +kernel))))
  obtain ⟨p4, a4, k4, x4, -, y4, z4, u4⟩ := Cond.arrayOver_spec ho4
  have ho5 : (Cond.arrayOver (.object RX8)).before #[Value.ref b] s = true := (htA _ (List.mem_append_right _ (List.mem_of_getElem? (i := 130) (by decide +kernel))))
  obtain ⟨p5, a5, k5, x5, -, y5, z5, u5⟩ := Cond.arrayOver_spec ho5
  obtain ⟨t1, et1, hT1⟩ := va_Tof (args := #[Value.ref b]) (s := s) (tm := (.static "LensTable" "NUMBER_LEAST" "[I")) (ty := .int) (N := 7) (f := fun j => .int (nLeast j)) (A := fun q => s.heap.size ≤ q) (by decide) (hs (Cond.arrayOf (.static "LensTable" "NUMBER_LEAST" "[I") .int) (by decide +kernel)) (va_eqt (hs (Cond.eq (.length (.static "LensTable" "NUMBER_LEAST" "[I")) (.int 7)) (by decide +kernel))) (fun j hj => by
      rcases (show j = 0 ∨ j = 1 ∨ j = 2 ∨ j = 3 ∨ j = 4 ∨ j = 5 ∨ j = 6 by omega) with rfl | rfl | rfl | rfl | rfl | rfl | rfl
      · exact va_eqt (hs (Cond.eq (.elem (.static "LensTable" "NUMBER_LEAST" "[I") (.int 0)) (.int 0)) (by decide +kernel))
      · exact va_eqt (hs (Cond.eq (.elem (.static "LensTable" "NUMBER_LEAST" "[I") (.int 1)) (.int 1)) (by decide +kernel))
      · exact va_eqt (hs (Cond.eq (.elem (.static "LensTable" "NUMBER_LEAST" "[I") (.int 2)) (.int 1)) (by decide +kernel))
      · exact va_eqt (hs (Cond.eq (.elem (.static "LensTable" "NUMBER_LEAST" "[I") (.int 3)) (.int 0)) (by decide +kernel))
      · exact va_eqt (hs (Cond.eq (.elem (.static "LensTable" "NUMBER_LEAST" "[I") (.int 4)) (.int 0)) (by decide +kernel))
      · exact va_eqt (hs (Cond.eq (.elem (.static "LensTable" "NUMBER_LEAST" "[I") (.int 5)) (.int 1)) (by decide +kernel))
      · exact va_eqt (hs (Cond.eq (.elem (.static "LensTable" "NUMBER_LEAST" "[I") (.int 6)) (.int 1)) (by decide +kernel))) (fun a h => Nat.not_le.mpr h)
  have hZ1 : va_Z RX11 "NUMBER_LEAST" "[I" (.ref t1) (fun q => s.heap.size ≤ q) s s.heap := va_Zref (htA _ (List.mem_append_right _ (List.mem_of_getElem? (i := 361) (by decide +kernel)))) (htA _ (List.mem_append_right _ (List.mem_of_getElem? (i := 1) (by decide +kernel)))) et1 (fun a h => Nat.not_le.mpr h)
  obtain ⟨t2, et2, hT2⟩ := va_Tof (args := #[Value.ref b]) (s := s) (tm := (.static "LensTable" "NUMBER_MOST" "[I")) (ty := .int) (N := 7) (f := fun j => .int (nMost j)) (A := fun q => s.heap.size ≤ q) (by decide) (hs (Cond.arrayOf (.static "LensTable" "NUMBER_MOST" "[I") .int) (by decide +kernel)) (va_eqt (hs (Cond.eq (.length (.static "LensTable" "NUMBER_MOST" "[I")) (.int 7)) (by decide +kernel))) (fun j hj => by
      rcases (show j = 0 ∨ j = 1 ∨ j = 2 ∨ j = 3 ∨ j = 4 ∨ j = 5 ∨ j = 6 by omega) with rfl | rfl | rfl | rfl | rfl | rfl | rfl
      · exact va_eqt (hs (Cond.eq (.elem (.static "LensTable" "NUMBER_MOST" "[I") (.int 0)) (.int 500)) (by decide +kernel))
      · exact va_eqt (hs (Cond.eq (.elem (.static "LensTable" "NUMBER_MOST" "[I") (.int 1)) (.int 100)) (by decide +kernel))
      · exact va_eqt (hs (Cond.eq (.elem (.static "LensTable" "NUMBER_MOST" "[I") (.int 2)) (.int 1000)) (by decide +kernel))
      · exact va_eqt (hs (Cond.eq (.elem (.static "LensTable" "NUMBER_MOST" "[I") (.int 3)) (.int 1)) (by decide +kernel))
      · exact va_eqt (hs (Cond.eq (.elem (.static "LensTable" "NUMBER_MOST" "[I") (.int 4)) (.int 50)) (by decide +kernel))
      · exact va_eqt (hs (Cond.eq (.elem (.static "LensTable" "NUMBER_MOST" "[I") (.int 5)) (.int 400)) (by decide +kernel))
      · exact va_eqt (hs (Cond.eq (.elem (.static "LensTable" "NUMBER_MOST" "[I") (.int 6)) (.int 400)) (by decide +kernel))) (fun a h => Nat.not_le.mpr h)
  have hZ2 : va_Z RX11 "NUMBER_MOST" "[I" (.ref t2) (fun q => s.heap.size ≤ q) s s.heap := va_Zref (htA _ (List.mem_append_right _ (List.mem_of_getElem? (i := 363) (by decide +kernel)))) (htA _ (List.mem_append_right _ (List.mem_of_getElem? (i := 1) (by decide +kernel)))) et2 (fun a h => Nat.not_le.mpr h)
  refine ⟨((fun c => (Classical.choose (hk c)).1, fun c => (Classical.choose (hk c)).2), (fun t => match t with | 0 => a0 | 1 => a1 | 2 => a2 | 3 => a3 | 4 => a4 | _ => a5), s.heap.size, (fun n => match n with | 0 => b | 1 => t1 | _ => t2)), rfl, rfl, ⟨fun c q hq => ?_, fun k q hq => ?_⟩, fun w hw => ?_, ⟨va_AO.of ho2, va_AO.of ho3, va_AO.of ho4, va_AO.of ho5⟩, Nat.le_refl _, ⟨hZ1, hT1⟩, hZ2, hT2⟩
  · have hc : c < 13 := (List.getElem?_eq_some_iff.mp hq).1
    have e := cls_ok c hc
    rw [hq] at e
    have e := Option.some.inj e
    rw [e]
    exact Classical.choose_spec (hk c) hc
  · have hk6 : k < 6 := (List.getElem?_eq_some_iff.mp hq).1
    rcases (show k = 0 ∨ k = 1 ∨ k = 2 ∨ k = 3 ∨ k = 4 ∨ k = 5 by omega) with rfl | rfl | rfl | rfl | rfl | rfl
    · cases hq; exact ⟨fun n z => ⟨fun k h => (by cases h), k0, y0, p0, z0⟩, x0⟩
    · cases hq; exact ⟨fun n z => ⟨fun k h => (by cases h), k1, y1, p1, z1⟩, x1⟩
    · cases hq; exact ⟨fun n z => ⟨fun k h => (by cases h), k2, y2, p2, z2⟩, k2, p2, y2, z2, x2, u2⟩
    · cases hq; exact ⟨fun n z => ⟨fun k h => (by cases h), k3, y3, p3, z3⟩, k3, p3, y3, z3, x3, u3⟩
    · cases hq; exact ⟨fun n z => ⟨fun k h => (by cases h), k4, y4, p4, z4⟩, k4, p4, y4, z4, x4, u4⟩
    · cases hq; exact ⟨fun n z => ⟨fun k h => (by cases h), k5, y5, p5, z5⟩, k5, p5, y5, z5, x5, u5⟩
  · have g := (List.mem_filter.mp hw).2
    have h := htA w (List.mem_append_right _ (List.mem_filter.mp hw).1)
    cases w <;> first | exact va_Nw.of rfl h | cases g
theorem wl7 : Cond.classLink RL 7 (clsC 11) ∈ wA := (wA_t 16 (by decide +kernel) rfl)
theorem wl10 : Cond.classLink RL 10 (clsC 12) ∈ wA := (wA_t 792 (by decide +kernel) rfl)
set_option maxHeartbeats 4000000 in
set_option maxRecDepth 100000 in
/-- THE LAW, from its entry -/
theorem whole_start {p : Program} {e : Env} {s : State} {m : MethodId} {below : List Frame} {meth : Method} {c : Code} (l : Launch) {b L : Nat} {xs : Nat → Int32} (hL : L ≤ 4096) (C0 : lw_At p s m meth c b L xs) : W p l e room_1 s m #[Value.ref b] below meth c s.heap [] 0 0 (lw_Z below #[Value.ref b] s) (entryFrame m ([Value.ref b] : List Value).toArray 4) := by
  obtain ⟨hx, hb, hr, hml, hown, hts, hX, hbl, hlocks, hgv⟩ := C0
  obtain ⟨V, v1, v2, hK⟩ := law_V hts hgv
  have C : Cx (p, l, e, room_1, s, m, #[Value.ref b], below, meth, c) V (mL meth) 9 := ⟨hx, hb, hml, hown, fun w hw => hts w (List.mem_filter.mp hw).1, hK, hr, hlocks, rfl, (show 9 ≤ room_1.frames by decide), (show 34 * 9 ≤ room_1.locals by decide)⟩
  have S : Sc (p, l, e, room_1, s, m, #[Value.ref b], below, meth, c) V L xs := ⟨by rw [v2]; exact hX, by rw [v1, v2]; exact hbl, v1, hL⟩
  have hcR : (cR (p, l, e, room_1, s, m, #[Value.ref b], below, meth, c)).cells = 600000 := rfl
  have hsR : (cR (p, l, e, room_1, s, m, #[Value.ref b], below, meth, c)).slots = 7302250 := rfl
  have key : AW (p, l, e, room_1, s, m, #[Value.ref b], below, meth, c) V (mL meth).2.2.1 (Tr 0 rz) mz 0 0 (lw_Z below #[Value.ref b] s) 0 [(0, .retAddr 0)] [] := by
    generalize hXe : (p, l, e, room_1, s, m, #[Value.ref b], below, meth, c) = X at C S hcR hsR ⊢
    have hsz : (cS X).heap.size = V.2.2.1 := S.2.2.1.symm
    have hF0 : Fr (Tr 0 rz) mz := ⟨rfl, fun _ _ _ => ⟨rfl, rfl, rfl⟩⟩
    refine ar_newG (c := 11) (T := Tr 0 rz) C (show (cS X).heap.size + 0 = V.2.2.1 + 0 from by omega) (by decide) cwX11 wl7 (wA_t 17 (by decide +kernel) rfl) (wA_t 1 (by decide +kernel) rfl) hF0 (by decide) (by decide) (by rw [hcR, hsR]; exact ⟨by decide, by decide⟩) dL_law_0 ?_
    show AW X V 4 (Tr 1 rz) mz 1 13 _ 3 [(0, .retAddr 0)] [.ref 0]
    refine ar_dup C dL_law_3 rfl ?_
    refine ar_callI (T := Tr 1 rz) (k := 0) (ar := []) (st := [.ref 0]) C lkL_9 c_lens (by decide) rfl (Nat.le_of_ble_eq_true rfl) rfl (by rw [hcR, hsR]; exact ⟨by decide, by decide⟩) dL_law_4 (fun r1 T1 M1 hp => ?_)
    obtain ⟨rfl, rfl, rfl⟩ := hp
    show AW X V 4 (Tr 96 (rA 8 24 8 2)) (mA 8 24 2) 96 1635 _ 7 [(0, .retAddr 0)] [.ref 0]
    refine ar_astore_n (als' := [(1, .ref 0), (0, .retAddr 0)]) C dL_law_7 rfl (show 1 < 4 by decide) rfl ?_
    refine ar_newG (c := 12) (T := Tr 96 (rA 8 24 8 2)) C (show (cS X).heap.size + 96 = V.2.2.1 + 96 from by omega) (by decide) cwX12 wl10 (wA_t 793 (by decide +kernel) rfl) (wA_t 13 (by decide +kernel) rfl) (FrD (i := 2) (by decide)) (by decide) (by decide) (by rw [hcR, hsR]; exact ⟨by decide, by decide⟩) dL_law_8 ?_
    show AW X V 4 (Tr 97 (rA 8 24 8 2)) (mA 8 24 2) 97 1664 _ 11 [(1, .ref 0), (0, .retAddr 0)] [.ref 96]
    refine ar_dup C dL_law_11 rfl ?_
    refine ar_callI (T := Tr 97 (rA 8 24 8 2)) (k := 96) (ar := []) (st := [.ref 96]) C lkL_12 c_model (by decide) rfl (Nat.le_of_ble_eq_true rfl) rfl (by rw [hcR, hsR]; exact ⟨by decide, by decide⟩) dL_law_12 (fun r1 T1 M1 hp => ?_)
    obtain ⟨rfl, rfl, rfl⟩ := hp
    show AW X V 4 T0 M0 113 3058 _ 15 [(1, .ref 0), (0, .retAddr 0)] [.ref 96]
    refine ar_astore_n (als' := [(2, .ref 96), (1, .ref 0), (0, .retAddr 0)]) C dL_law_15 rfl (show 2 < 4 by decide) rfl ?_
    refine ar_iconst (v := 0) C dL_law_16 (by decide) ?_
    refine ar_istore_n (als' := [(3, .int 0), (2, .ref 96), (1, .ref 0), (0, .retAddr 0)]) C dL_law_17 rfl (show 3 < 4 by decide) rfl ?_
    refine law_loop C S (by rw [hcR, hsR]; exact ⟨by decide, by decide⟩) (fun M als => ?_) (L + 9) 0 M0 (by omega) Rel_0 (by omega)
    refine ar_iconst (v := 1) C dL_law_1514 (by decide) ?_
    subst hXe
    intro H locs ls hH hS hl
    refine va_forget (fun q hq => by rw [← v1]; exact hS.2.2 q hq) ?_
    refine W.widen (k := 600000) (n := 7302250) (by decide) (by decide) ?_
    exact lw_ret hx hb hr hlocks dL_law_1515
  have hl := lv_entry ([.ref b]) (n := 4) (Nat.le_of_ble_eq_true rfl)
  rw [lg_entry_eq]
  refine key s.heap [] _ ⟨fun k q h => by simp [wsW] at h, fun _ => by rw [v1]; rfl⟩ va_S.rf ?_
  have e : tvl V [(0, .retAddr 0)] = [(0, .ref b)] := by show [(0, Value.ref (V.2.2.2 0))] = _; rw [v2]
  rw [e]
  exact hl
