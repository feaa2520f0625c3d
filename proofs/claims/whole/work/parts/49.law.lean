/-! THE LAW -/
/-! THE CLAIM OUT OF ONE WALK OF THE LAW'S BODY. Your part is whole_start (and what it stands on); all else here is the same for every law, but numbers. -/
def R_law : String := "LensTableLaw"
def lw_P (b : Addr) (xs : List Int32) (args : Array Value) (s : State) : Prop := args = #[.ref b] ∧ s.IntsAt b xs ∧ xs.length ≤ 4096 ∧ (Jvm.Cond.and given_1 narrow_1).before args s = true
def lw_Q (_ : Array Value) (s : State) (o : Outcome) (t : State) : Prop := o = .returned (some (.int 1)) ∧ Framed s o t [] 600000 7302250
def lw_Z (below : List Frame) (a : Array Value) (s : State) : State → Prop := fun t => ∃ o, t.status = .running ∧ Ended t below o ∧ lw_Q a s o t
/-- the law's own end, with 1 on the stack, nothing written that was there before, its room as the claim has it -/
theorem lw_ret {p : Program} {l : Launch} {e : Env} {s : State} {m : MethodId} {below : List Frame} {meth : Method} {c : Code} {b : Nat} (hx : p.tables.exec = Jvm.exec) (hb : c.code = code) (hr : meth.sig.returnType = ret) (hlocks : meth.locks = false) {pc : Nat} {H : Heap} {ls : Array Slot} (hdg : decode code pc = .ok (.ireturn, 1)) : W p l e room_1 s m #[Value.ref b] below meth c H [] 600000 7302250 (lw_Z below #[Value.ref b] s) (F0 m pc ls [.int 1]) := by
  intro T hT X
  obtain ⟨fs, hret, hrun, hended, hW, hframe⟩ := X.leave (v := some (.int 1)) (hlocks := hlocks) (fun h => by rw [hr] at h; cases h)
  have hmeth' : T.vm.method? m = some meth := X.method'
  refine ⟨T.setFrames fs, ?_, .returned (some (.int 1)), hrun, hended, rfl, ⟨_, rfl⟩, hW, hframe⟩
  jvm_step X.here [X.here.top, hx, hb, hdg, hmeth', hr, ret, narrow_b1]
  (try refine ⟨rfl, ?_⟩); (try refine ⟨rfl, ?_⟩)
  first | (intro acts; rw [hret _ acts rfl rfl rfl]) | rw [hret _ _ rfl rfl rfl]
  exact Steps.refl _
/-- what holds at the law's entry: the machine, the code, the tables' words (any of lw_tbl by 'hts w (by decide +kernel)'), the script of L ints xs at the cell b, what the Statement gives of the start (any of its parts by flat_of_before) -/
def lw_At (p : Program) (s : State) (m : MethodId) (meth : Method) (c : Code) (b L : Nat) (xs : Nat → Int32) : Prop :=
  p.tables.exec = Jvm.exec ∧ c.code = code ∧ meth.sig.returnType = ret ∧ c.maxLocals = 4 ∧ s.vm.findClass R_law = some m.cls ∧ (∀ w ∈ lw_tbl, w.before #[Value.ref b] s = true) ∧ va_X b L xs s s.heap ∧ b < s.heap.size ∧ meth.locks = false ∧ (Jvm.Cond.and given_1 narrow_1).before #[Value.ref b] s = true
/-- the law as a method: its own name is whatever the machine calls it -/
abbrev mL (meth : Method) : MB := (⟨RL, meth.name, "([I)Z"⟩, cL_law, 4, ret)
section LAWROWS
variable {X : Ctx} {V : Vx} {mb : MB} {d : Nat} {T : Tt} {M : Mm} {cl sl : Nat} {Q : State → Prop} {pc : Nat} {als : List (Nat × Value)} {st st0 : List Value}
/-- the script: L ints xs, at the outer cell 0 -/
def Sc (X : Ctx) (V : Vx) (L : Nat) (xs : Nat → Int32) : Prop := va_X (V.2.2.2 0) L xs (cS X) (cS X).heap ∧ V.2.2.2 0 < V.2.2.1 ∧ V.2.2.1 = (cS X).heap.size ∧ L ≤ 4096
theorem ar_sld (C : Cx X V mb d) {L : Nat} {xs : Nat → Int32} (S : Sc X V L xs) {i : Int32} {j : Nat} (e : i = nI j) (hj : j < L) (hd : decode mb.2.1 pc = .ok (.iaload, 1)) (kk : AW X V mb.2.2.1 T M cl sl Q (pc + 1) als (.int (xs j) :: st)) : AW X V mb.2.2.1 T M cl sl Q pc als (.int i :: .retAddr 0 :: st) := by
  intro H locs ls hH hS hl
  subst e
  obtain ⟨s1, s2, s3, s4⟩ := S
  have h := kk H locs ls hH hS hl
  refine va_sld C.1 C.2.1 s1 (by omega) (Nat.not_le.mpr s2) hS (vp_in_nI hj (by omega)) hd ?_
  rw [nI_clamp (by omega)]
  exact h
theorem ar_slen (C : Cx X V mb d) {L : Nat} {xs : Nat → Int32} (S : Sc X V L xs) (hd : decode mb.2.1 pc = .ok (.arraylength, 1)) (kk : AW X V mb.2.2.1 T M cl sl Q (pc + 1) als (.int (nI L) :: st)) : AW X V mb.2.2.1 T M cl sl Q pc als (.retAddr 0 :: st) := by
  intro H locs ls hH hS hl
  obtain ⟨s1, s2, s3, s4⟩ := S
  exact va_slen C.1 C.2.1 s1 (by omega) (Nat.not_le.mpr s2) hS hd (kk H locs ls hH hS hl)
theorem cLi (C : Cx X V mb d) {idx n d' c k kn : Nat} {b : MB} {ar : List Value} {v : Value} {P : Mm → Prop} (L : VL mb.1.cls idx b n c) (K : KD T0 k c kn) (h : AQ b d' (.ref k :: ar) M (some v) P) (hdd : d' + 1 ≤ d) (hn : ar.length = n) (hst : (st.map fun v => v.category).sum ≤ 8) (hs0 : st0 = ar.reverse ++ .ref k :: st) (hroom : cl ≤ (cR X).cells ∧ sl ≤ (cR X).slots) (hd : decode mb.2.1 pc = .ok (.invokevirtual idx, 3)) (kk : ∀ M', P M' → AW X V mb.2.2.1 T0 M' cl sl Q (pc + 3) als (v :: st)) : AW X V mb.2.2.1 T0 M cl sl Q pc als st0 :=
  ar_callV C L K h hdd hn hst hs0 hroom hd (fun r T' M' hp => by obtain ⟨rfl, rfl, hP⟩ := hp; exact kk M' hP)
end LAWROWS
set_option maxHeartbeats 1000000 in
set_option maxRecDepth 100000 in
theorem lcs_0 {X : Ctx} {V : Vx} {meth : Method} {cl sl : Nat} {Q : State → Prop} (C : Cx X V (mL meth) 9) {L : Nat} {xs : Nat → Int32} (S : Sc X V L xs) (hroom : cl ≤ (cR X).cells ∧ sl ≤ (cR X).slots) {M : Mm} (hR : Rel M) {i : Nat} (hi : i + 8 ≤ L) (kk : ∀ M1, Rel M1 → AW X V 4 T0 M1 cl sl Q 1508 [(3, .int (nI i)), (2, .ref 96), (1, .ref 0), (0, .retAddr 0)] []) : AW X V 4 T0 M cl sl Q 180 [(3, .int (nI i)), (2, .ref 96), (1, .ref 0), (0, .retAddr 0)] [] := by
  obtain ⟨v, P1, hx, hm⟩ := op_sheet hR (xs (i + 1)) (xs (i + 2)) (xs (i + 3))
  refine ar_aload_n (n := 2) C dL_law_180 rfl rfl ?_
  refine ar_aload_nX (n := 3) C dL_law_181 rfl rfl ?_
  refine ar_iload_n (n := 0) C dL_law_182 rfl rfl ?_
  refine ar_iconst (v := 1) C dL_law_183 (by decide) ?_
  refine ar_iadd C dL_law_184 ?_
  refine ar_sld (j := i + 1) C S (show nI i + 1 = nI (i + 1) from nI_add i 1) (by omega) dL_law_185 ?_
  refine ar_aload_nX (n := 3) C dL_law_186 rfl rfl ?_
  refine ar_iload_n (n := 0) C dL_law_187 rfl rfl ?_
  refine ar_iconst (v := 2) C dL_law_188 (by decide) ?_
  refine ar_iadd C dL_law_189 ?_
  refine ar_sld (j := i + 2) C S (show nI i + 2 = nI (i + 2) from nI_add i 2) (by omega) dL_law_190 ?_
  refine ar_aload_nX (n := 3) C dL_law_191 rfl rfl ?_
  refine ar_iload_n (n := 0) C dL_law_192 rfl rfl ?_
  refine ar_iconst (v := 3) C dL_law_193 (by decide) ?_
  refine ar_iadd C dL_law_194 ?_
  refine ar_sld (j := i + 3) C S (show nI i + 3 = nI (i + 3) from nI_add i 3) (by omega) dL_law_195 ?_
  refine cLi (ar := [.int (xs (i + 1)), .int (xs (i + 2)), .int (xs (i + 3))]) (st := []) C lkL_13 kd_0 hx (by decide) rfl (Nat.le_of_ble_eq_true rfl) rfl hroom dL_law_196 (fun M1 h1 => ?_)
  refine ar_aload_n (n := 1) C dL_law_199 rfl rfl ?_
  refine ar_aload_nX (n := 3) C dL_law_200 rfl rfl ?_
  refine ar_iload_n (n := 0) C dL_law_201 rfl rfl ?_
  refine ar_iconst (v := 1) C dL_law_202 (by decide) ?_
  refine ar_iadd C dL_law_203 ?_
  refine ar_sld (j := i + 1) C S (show nI i + 1 = nI (i + 1) from nI_add i 1) (by omega) dL_law_204 ?_
  refine ar_aload_nX (n := 3) C dL_law_205 rfl rfl ?_
  refine ar_iload_n (n := 0) C dL_law_206 rfl rfl ?_
  refine ar_iconst (v := 2) C dL_law_207 (by decide) ?_
  refine ar_iadd C dL_law_208 ?_
  refine ar_sld (j := i + 2) C S (show nI i + 2 = nI (i + 2) from nI_add i 2) (by omega) dL_law_209 ?_
  refine ar_aload_nX (n := 3) C dL_law_210 rfl rfl ?_
  refine ar_iload_n (n := 0) C dL_law_211 rfl rfl ?_
  refine ar_iconst (v := 3) C dL_law_212 (by decide) ?_
  refine ar_iadd C dL_law_213 ?_
  refine ar_sld (j := i + 3) C S (show nI i + 3 = nI (i + 3) from nI_add i 3) (by omega) dL_law_214 ?_
  refine cLi (ar := [.int (xs (i + 1)), .int (xs (i + 2)), .int (xs (i + 3))]) (st := [.int v]) C lkL_17 kd_96 (hm M1 h1) (by decide) rfl (Nat.le_of_ble_eq_true rfl) rfl hroom dL_law_215 (fun M2 h2 => ?_)
  exact ar_icmp_eq (tgt := 1508) C dL_law_218 (by decide) (fun _ => kk M2 h2) (fun c => absurd rfl c)
set_option maxHeartbeats 1000000 in
set_option maxRecDepth 100000 in
theorem lcs_1 {X : Ctx} {V : Vx} {meth : Method} {cl sl : Nat} {Q : State → Prop} (C : Cx X V (mL meth) 9) {L : Nat} {xs : Nat → Int32} (S : Sc X V L xs) (hroom : cl ≤ (cR X).cells ∧ sl ≤ (cR X).slots) {M : Mm} (hR : Rel M) {i : Nat} (hi : i + 8 ≤ L) (kk : ∀ M1, Rel M1 → AW X V 4 T0 M1 cl sl Q 1508 [(3, .int (nI i)), (2, .ref 96), (1, .ref 0), (0, .retAddr 0)] []) : AW X V 4 T0 M cl sl Q 223 [(3, .int (nI i)), (2, .ref 96), (1, .ref 0), (0, .retAddr 0)] [] := by
  obtain ⟨v, P1, hx, hm⟩ := op_set hR (xs (i + 1)) (xs (i + 2)) (xs (i + 3))
  refine ar_aload_n (n := 2) C dL_law_223 rfl rfl ?_
  refine ar_aload_nX (n := 3) C dL_law_224 rfl rfl ?_
  refine ar_iload_n (n := 0) C dL_law_225 rfl rfl ?_
  refine ar_iconst (v := 1) C dL_law_226 (by decide) ?_
  refine ar_iadd C dL_law_227 ?_
  refine ar_sld (j := i + 1) C S (show nI i + 1 = nI (i + 1) from nI_add i 1) (by omega) dL_law_228 ?_
  refine ar_aload_nX (n := 3) C dL_law_229 rfl rfl ?_
  refine ar_iload_n (n := 0) C dL_law_230 rfl rfl ?_
  refine ar_iconst (v := 2) C dL_law_231 (by decide) ?_
  refine ar_iadd C dL_law_232 ?_
  refine ar_sld (j := i + 2) C S (show nI i + 2 = nI (i + 2) from nI_add i 2) (by omega) dL_law_233 ?_
  refine ar_aload_nX (n := 3) C dL_law_234 rfl rfl ?_
  refine ar_iload_n (n := 0) C dL_law_235 rfl rfl ?_
  refine ar_iconst (v := 3) C dL_law_236 (by decide) ?_
  refine ar_iadd C dL_law_237 ?_
  refine ar_sld (j := i + 3) C S (show nI i + 3 = nI (i + 3) from nI_add i 3) (by omega) dL_law_238 ?_
  refine cLi (ar := [.int (xs (i + 1)), .int (xs (i + 2)), .int (xs (i + 3))]) (st := []) C lkL_18 kd_0 hx (by decide) rfl (Nat.le_of_ble_eq_true rfl) rfl hroom dL_law_239 (fun M1 h1 => ?_)
  refine ar_aload_n (n := 1) C dL_law_242 rfl rfl ?_
  refine ar_aload_nX (n := 3) C dL_law_243 rfl rfl ?_
  refine ar_iload_n (n := 0) C dL_law_244 rfl rfl ?_
  refine ar_iconst (v := 1) C dL_law_245 (by decide) ?_
  refine ar_iadd C dL_law_246 ?_
  refine ar_sld (j := i + 1) C S (show nI i + 1 = nI (i + 1) from nI_add i 1) (by omega) dL_law_247 ?_
  refine ar_aload_nX (n := 3) C dL_law_248 rfl rfl ?_
  refine ar_iload_n (n := 0) C dL_law_249 rfl rfl ?_
  refine ar_iconst (v := 2) C dL_law_250 (by decide) ?_
  refine ar_iadd C dL_law_251 ?_
  refine ar_sld (j := i + 2) C S (show nI i + 2 = nI (i + 2) from nI_add i 2) (by omega) dL_law_252 ?_
  refine ar_aload_nX (n := 3) C dL_law_253 rfl rfl ?_
  refine ar_iload_n (n := 0) C dL_law_254 rfl rfl ?_
  refine ar_iconst (v := 3) C dL_law_255 (by decide) ?_
  refine ar_iadd C dL_law_256 ?_
  refine ar_sld (j := i + 3) C S (show nI i + 3 = nI (i + 3) from nI_add i 3) (by omega) dL_law_257 ?_
  refine cLi (ar := [.int (xs (i + 1)), .int (xs (i + 2)), .int (xs (i + 3))]) (st := [.int v]) C lkL_21 kd_96 (hm M1 h1) (by decide) rfl (Nat.le_of_ble_eq_true rfl) rfl hroom dL_law_258 (fun M2 h2 => ?_)
  exact ar_icmp_eq (tgt := 1508) C dL_law_261 (by decide) (fun _ => kk M2 h2) (fun c => absurd rfl c)
set_option maxHeartbeats 1000000 in
set_option maxRecDepth 100000 in
theorem lcs_2 {X : Ctx} {V : Vx} {meth : Method} {cl sl : Nat} {Q : State → Prop} (C : Cx X V (mL meth) 9) {L : Nat} {xs : Nat → Int32} (S : Sc X V L xs) (hroom : cl ≤ (cR X).cells ∧ sl ≤ (cR X).slots) {M : Mm} (hR : Rel M) {i : Nat} (hi : i + 8 ≤ L) (kk : ∀ M1, Rel M1 → AW X V 4 T0 M1 cl sl Q 1508 [(3, .int (nI i)), (2, .ref 96), (1, .ref 0), (0, .retAddr 0)] []) : AW X V 4 T0 M cl sl Q 266 [(3, .int (nI i)), (2, .ref 96), (1, .ref 0), (0, .retAddr 0)] [] := by
  obtain ⟨v, P1, hx, hm⟩ := op_copy hR (xs (i + 1)) (xs (i + 2)) (xs (i + 3)) (xs (i + 4)) (xs (i + 5))
  refine ar_aload_n (n := 2) C dL_law_266 rfl rfl ?_
  refine ar_aload_nX (n := 3) C dL_law_267 rfl rfl ?_
  refine ar_iload_n (n := 0) C dL_law_268 rfl rfl ?_
  refine ar_iconst (v := 1) C dL_law_269 (by decide) ?_
  refine ar_iadd C dL_law_270 ?_
  refine ar_sld (j := i + 1) C S (show nI i + 1 = nI (i + 1) from nI_add i 1) (by omega) dL_law_271 ?_
  refine ar_aload_nX (n := 3) C dL_law_272 rfl rfl ?_
  refine ar_iload_n (n := 0) C dL_law_273 rfl rfl ?_
  refine ar_iconst (v := 2) C dL_law_274 (by decide) ?_
  refine ar_iadd C dL_law_275 ?_
  refine ar_sld (j := i + 2) C S (show nI i + 2 = nI (i + 2) from nI_add i 2) (by omega) dL_law_276 ?_
  refine ar_aload_nX (n := 3) C dL_law_277 rfl rfl ?_
  refine ar_iload_n (n := 0) C dL_law_278 rfl rfl ?_
  refine ar_iconst (v := 3) C dL_law_279 (by decide) ?_
  refine ar_iadd C dL_law_280 ?_
  refine ar_sld (j := i + 3) C S (show nI i + 3 = nI (i + 3) from nI_add i 3) (by omega) dL_law_281 ?_
  refine ar_aload_nX (n := 3) C dL_law_282 rfl rfl ?_
  refine ar_iload_n (n := 0) C dL_law_283 rfl rfl ?_
  refine ar_iconst (v := 4) C dL_law_284 (by decide) ?_
  refine ar_iadd C dL_law_285 ?_
  refine ar_sld (j := i + 4) C S (show nI i + 4 = nI (i + 4) from nI_add i 4) (by omega) dL_law_286 ?_
  refine ar_aload_nX (n := 3) C dL_law_287 rfl rfl ?_
  refine ar_iload_n (n := 0) C dL_law_288 rfl rfl ?_
  refine ar_iconst (v := 5) C dL_law_289 (by decide) ?_
  refine ar_iadd C dL_law_290 ?_
  refine ar_sld (j := i + 5) C S (show nI i + 5 = nI (i + 5) from nI_add i 5) (by omega) dL_law_291 ?_
  refine cLi (ar := [.int (xs (i + 1)), .int (xs (i + 2)), .int (xs (i + 3)), .int (xs (i + 4)), .int (xs (i + 5))]) (st := []) C lkL_22 kd_0 hx (by decide) rfl (Nat.le_of_ble_eq_true rfl) rfl hroom dL_law_292 (fun M1 h1 => ?_)
  refine ar_aload_n (n := 1) C dL_law_295 rfl rfl ?_
  refine ar_aload_nX (n := 3) C dL_law_296 rfl rfl ?_
  refine ar_iload_n (n := 0) C dL_law_297 rfl rfl ?_
  refine ar_iconst (v := 1) C dL_law_298 (by decide) ?_
  refine ar_iadd C dL_law_299 ?_
  refine ar_sld (j := i + 1) C S (show nI i + 1 = nI (i + 1) from nI_add i 1) (by omega) dL_law_300 ?_
  refine ar_aload_nX (n := 3) C dL_law_301 rfl rfl ?_
  refine ar_iload_n (n := 0) C dL_law_302 rfl rfl ?_
  refine ar_iconst (v := 2) C dL_law_303 (by decide) ?_
  refine ar_iadd C dL_law_304 ?_
  refine ar_sld (j := i + 2) C S (show nI i + 2 = nI (i + 2) from nI_add i 2) (by omega) dL_law_305 ?_
  refine ar_aload_nX (n := 3) C dL_law_306 rfl rfl ?_
  refine ar_iload_n (n := 0) C dL_law_307 rfl rfl ?_
  refine ar_iconst (v := 3) C dL_law_308 (by decide) ?_
  refine ar_iadd C dL_law_309 ?_
  refine ar_sld (j := i + 3) C S (show nI i + 3 = nI (i + 3) from nI_add i 3) (by omega) dL_law_310 ?_
  refine ar_aload_nX (n := 3) C dL_law_311 rfl rfl ?_
  refine ar_iload_n (n := 0) C dL_law_312 rfl rfl ?_
  refine ar_iconst (v := 4) C dL_law_313 (by decide) ?_
  refine ar_iadd C dL_law_314 ?_
  refine ar_sld (j := i + 4) C S (show nI i + 4 = nI (i + 4) from nI_add i 4) (by omega) dL_law_315 ?_
  refine ar_aload_nX (n := 3) C dL_law_316 rfl rfl ?_
  refine ar_iload_n (n := 0) C dL_law_317 rfl rfl ?_
  refine ar_iconst (v := 5) C dL_law_318 (by decide) ?_
  refine ar_iadd C dL_law_319 ?_
  refine ar_sld (j := i + 5) C S (show nI i + 5 = nI (i + 5) from nI_add i 5) (by omega) dL_law_320 ?_
  refine cLi (ar := [.int (xs (i + 1)), .int (xs (i + 2)), .int (xs (i + 3)), .int (xs (i + 4)), .int (xs (i + 5))]) (st := [.int v]) C lkL_26 kd_96 (hm M1 h1) (by decide) rfl (Nat.le_of_ble_eq_true rfl) rfl hroom dL_law_321 (fun M2 h2 => ?_)
  exact ar_icmp_eq (tgt := 1508) C dL_law_324 (by decide) (fun _ => kk M2 h2) (fun c => absurd rfl c)
set_option maxHeartbeats 1000000 in
set_option maxRecDepth 100000 in
theorem lcs_3 {X : Ctx} {V : Vx} {meth : Method} {cl sl : Nat} {Q : State → Prop} (C : Cx X V (mL meth) 9) {L : Nat} {xs : Nat → Int32} (S : Sc X V L xs) (hroom : cl ≤ (cR X).cells ∧ sl ≤ (cR X).slots) {M : Mm} (hR : Rel M) {i : Nat} (hi : i + 8 ≤ L) (kk : ∀ M1, Rel M1 → AW X V 4 T0 M1 cl sl Q 1508 [(3, .int (nI i)), (2, .ref 96), (1, .ref 0), (0, .retAddr 0)] []) : AW X V 4 T0 M cl sl Q 329 [(3, .int (nI i)), (2, .ref 96), (1, .ref 0), (0, .retAddr 0)] [] := by
  obtain ⟨v, P1, hx, hm⟩ := op_drop hR (xs (i + 1))
  refine ar_aload_n (n := 2) C dL_law_329 rfl rfl ?_
  refine ar_aload_nX (n := 3) C dL_law_330 rfl rfl ?_
  refine ar_iload_n (n := 0) C dL_law_331 rfl rfl ?_
  refine ar_iconst (v := 1) C dL_law_332 (by decide) ?_
  refine ar_iadd C dL_law_333 ?_
  refine ar_sld (j := i + 1) C S (show nI i + 1 = nI (i + 1) from nI_add i 1) (by omega) dL_law_334 ?_
  refine cLi (ar := [.int (xs (i + 1))]) (st := []) C lkL_27 kd_0 hx (by decide) rfl (Nat.le_of_ble_eq_true rfl) rfl hroom dL_law_335 (fun M1 h1 => ?_)
  refine ar_aload_n (n := 1) C dL_law_338 rfl rfl ?_
  refine ar_aload_nX (n := 3) C dL_law_339 rfl rfl ?_
  refine ar_iload_n (n := 0) C dL_law_340 rfl rfl ?_
  refine ar_iconst (v := 1) C dL_law_341 (by decide) ?_
  refine ar_iadd C dL_law_342 ?_
  refine ar_sld (j := i + 1) C S (show nI i + 1 = nI (i + 1) from nI_add i 1) (by omega) dL_law_343 ?_
  refine cLi (ar := [.int (xs (i + 1))]) (st := [.int v]) C lkL_31 kd_96 (hm M1 h1) (by decide) rfl (Nat.le_of_ble_eq_true rfl) rfl hroom dL_law_344 (fun M2 h2 => ?_)
  exact ar_icmp_eq (tgt := 1508) C dL_law_347 (by decide) (fun _ => kk M2 h2) (fun c => absurd rfl c)
set_option maxHeartbeats 1000000 in
set_option maxRecDepth 100000 in
theorem lcs_4 {X : Ctx} {V : Vx} {meth : Method} {cl sl : Nat} {Q : State → Prop} (C : Cx X V (mL meth) 9) {L : Nat} {xs : Nat → Int32} (S : Sc X V L xs) (hroom : cl ≤ (cR X).cells ∧ sl ≤ (cR X).slots) {M : Mm} (hR : Rel M) {i : Nat} (hi : i + 8 ≤ L) (kk : ∀ M1, Rel M1 → AW X V 4 T0 M1 cl sl Q 1508 [(3, .int (nI i)), (2, .ref 96), (1, .ref 0), (0, .retAddr 0)] []) : AW X V 4 T0 M cl sl Q 352 [(3, .int (nI i)), (2, .ref 96), (1, .ref 0), (0, .retAddr 0)] [] := by
  obtain ⟨v, P1, hx, hm⟩ := op_room hR (xs (i + 1)) (xs (i + 2))
  refine ar_aload_n (n := 2) C dL_law_352 rfl rfl ?_
  refine ar_aload_nX (n := 3) C dL_law_353 rfl rfl ?_
  refine ar_iload_n (n := 0) C dL_law_354 rfl rfl ?_
  refine ar_iconst (v := 1) C dL_law_355 (by decide) ?_
  refine ar_iadd C dL_law_356 ?_
  refine ar_sld (j := i + 1) C S (show nI i + 1 = nI (i + 1) from nI_add i 1) (by omega) dL_law_357 ?_
  refine ar_aload_nX (n := 3) C dL_law_358 rfl rfl ?_
  refine ar_iload_n (n := 0) C dL_law_359 rfl rfl ?_
  refine ar_iconst (v := 2) C dL_law_360 (by decide) ?_
  refine ar_iadd C dL_law_361 ?_
  refine ar_sld (j := i + 2) C S (show nI i + 2 = nI (i + 2) from nI_add i 2) (by omega) dL_law_362 ?_
  refine cLi (ar := [.int (xs (i + 1)), .int (xs (i + 2))]) (st := []) C lkL_32 kd_0 hx (by decide) rfl (Nat.le_of_ble_eq_true rfl) rfl hroom dL_law_363 (fun M1 h1 => ?_)
  refine ar_aload_n (n := 1) C dL_law_366 rfl rfl ?_
  refine ar_aload_nX (n := 3) C dL_law_367 rfl rfl ?_
  refine ar_iload_n (n := 0) C dL_law_368 rfl rfl ?_
  refine ar_iconst (v := 1) C dL_law_369 (by decide) ?_
  refine ar_iadd C dL_law_370 ?_
  refine ar_sld (j := i + 1) C S (show nI i + 1 = nI (i + 1) from nI_add i 1) (by omega) dL_law_371 ?_
  refine ar_aload_nX (n := 3) C dL_law_372 rfl rfl ?_
  refine ar_iload_n (n := 0) C dL_law_373 rfl rfl ?_
  refine ar_iconst (v := 2) C dL_law_374 (by decide) ?_
  refine ar_iadd C dL_law_375 ?_
  refine ar_sld (j := i + 2) C S (show nI i + 2 = nI (i + 2) from nI_add i 2) (by omega) dL_law_376 ?_
  refine cLi (ar := [.int (xs (i + 1)), .int (xs (i + 2))]) (st := [.int v]) C lkL_36 kd_96 (hm M1 h1) (by decide) rfl (Nat.le_of_ble_eq_true rfl) rfl hroom dL_law_377 (fun M2 h2 => ?_)
  exact ar_icmp_eq (tgt := 1508) C dL_law_380 (by decide) (fun _ => kk M2 h2) (fun c => absurd rfl c)
set_option maxHeartbeats 1000000 in
set_option maxRecDepth 100000 in
theorem lcs_5 {X : Ctx} {V : Vx} {meth : Method} {cl sl : Nat} {Q : State → Prop} (C : Cx X V (mL meth) 9) {L : Nat} {xs : Nat → Int32} (S : Sc X V L xs) (hroom : cl ≤ (cR X).cells ∧ sl ≤ (cR X).slots) {M : Mm} (hR : Rel M) {i : Nat} (hi : i + 8 ≤ L) (kk : ∀ M1, Rel M1 → AW X V 4 T0 M1 cl sl Q 1508 [(3, .int (nI i)), (2, .ref 96), (1, .ref 0), (0, .retAddr 0)] []) : AW X V 4 T0 M cl sl Q 385 [(3, .int (nI i)), (2, .ref 96), (1, .ref 0), (0, .retAddr 0)] [] := by
  obtain ⟨v, P1, hx, hm⟩ := op_bend hR (xs (i + 1)) (xs (i + 2))
  refine ar_aload_n (n := 2) C dL_law_385 rfl rfl ?_
  refine ar_aload_nX (n := 3) C dL_law_386 rfl rfl ?_
  refine ar_iload_n (n := 0) C dL_law_387 rfl rfl ?_
  refine ar_iconst (v := 1) C dL_law_388 (by decide) ?_
  refine ar_iadd C dL_law_389 ?_
  refine ar_sld (j := i + 1) C S (show nI i + 1 = nI (i + 1) from nI_add i 1) (by omega) dL_law_390 ?_
  refine ar_aload_nX (n := 3) C dL_law_391 rfl rfl ?_
  refine ar_iload_n (n := 0) C dL_law_392 rfl rfl ?_
  refine ar_iconst (v := 2) C dL_law_393 (by decide) ?_
  refine ar_iadd C dL_law_394 ?_
  refine ar_sld (j := i + 2) C S (show nI i + 2 = nI (i + 2) from nI_add i 2) (by omega) dL_law_395 ?_
  refine cLi (ar := [.int (xs (i + 1)), .int (xs (i + 2))]) (st := []) C lkL_37 kd_0 hx (by decide) rfl (Nat.le_of_ble_eq_true rfl) rfl hroom dL_law_396 (fun M1 h1 => ?_)
  refine ar_aload_n (n := 1) C dL_law_399 rfl rfl ?_
  refine ar_aload_nX (n := 3) C dL_law_400 rfl rfl ?_
  refine ar_iload_n (n := 0) C dL_law_401 rfl rfl ?_
  refine ar_iconst (v := 1) C dL_law_402 (by decide) ?_
  refine ar_iadd C dL_law_403 ?_
  refine ar_sld (j := i + 1) C S (show nI i + 1 = nI (i + 1) from nI_add i 1) (by omega) dL_law_404 ?_
  refine ar_aload_nX (n := 3) C dL_law_405 rfl rfl ?_
  refine ar_iload_n (n := 0) C dL_law_406 rfl rfl ?_
  refine ar_iconst (v := 2) C dL_law_407 (by decide) ?_
  refine ar_iadd C dL_law_408 ?_
  refine ar_sld (j := i + 2) C S (show nI i + 2 = nI (i + 2) from nI_add i 2) (by omega) dL_law_409 ?_
  refine cLi (ar := [.int (xs (i + 1)), .int (xs (i + 2))]) (st := [.int v]) C lkL_40 kd_96 (hm M1 h1) (by decide) rfl (Nat.le_of_ble_eq_true rfl) rfl hroom dL_law_410 (fun M2 h2 => ?_)
  exact ar_icmp_eq (tgt := 1508) C dL_law_413 (by decide) (fun _ => kk M2 h2) (fun c => absurd rfl c)
set_option maxHeartbeats 1000000 in
set_option maxRecDepth 100000 in
theorem lcs_6 {X : Ctx} {V : Vx} {meth : Method} {cl sl : Nat} {Q : State → Prop} (C : Cx X V (mL meth) 9) {L : Nat} {xs : Nat → Int32} (S : Sc X V L xs) (hroom : cl ≤ (cR X).cells ∧ sl ≤ (cR X).slots) {M : Mm} (hR : Rel M) {i : Nat} (hi : i + 8 ≤ L) (kk : ∀ M1, Rel M1 → AW X V 4 T0 M1 cl sl Q 1508 [(3, .int (nI i)), (2, .ref 96), (1, .ref 0), (0, .retAddr 0)] []) : AW X V 4 T0 M cl sl Q 418 [(3, .int (nI i)), (2, .ref 96), (1, .ref 0), (0, .retAddr 0)] [] := by
  obtain ⟨v, P1, hx, hm⟩ := op_told hR (xs (i + 1))
  refine ar_aload_n (n := 2) C dL_law_418 rfl rfl ?_
  refine ar_aload_nX (n := 3) C dL_law_419 rfl rfl ?_
  refine ar_iload_n (n := 0) C dL_law_420 rfl rfl ?_
  refine ar_iconst (v := 1) C dL_law_421 (by decide) ?_
  refine ar_iadd C dL_law_422 ?_
  refine ar_sld (j := i + 1) C S (show nI i + 1 = nI (i + 1) from nI_add i 1) (by omega) dL_law_423 ?_
  refine cLi (ar := [.int (xs (i + 1))]) (st := []) C lkL_41 kd_0 hx (by decide) rfl (Nat.le_of_ble_eq_true rfl) rfl hroom dL_law_424 (fun M1 h1 => ?_)
  refine ar_aload_n (n := 1) C dL_law_427 rfl rfl ?_
  refine ar_aload_nX (n := 3) C dL_law_428 rfl rfl ?_
  refine ar_iload_n (n := 0) C dL_law_429 rfl rfl ?_
  refine ar_iconst (v := 1) C dL_law_430 (by decide) ?_
  refine ar_iadd C dL_law_431 ?_
  refine ar_sld (j := i + 1) C S (show nI i + 1 = nI (i + 1) from nI_add i 1) (by omega) dL_law_432 ?_
  refine cLi (ar := [.int (xs (i + 1))]) (st := [.int v]) C lkL_44 kd_96 (hm M1 h1) (by decide) rfl (Nat.le_of_ble_eq_true rfl) rfl hroom dL_law_433 (fun M2 h2 => ?_)
  exact ar_icmp_eq (tgt := 1508) C dL_law_436 (by decide) (fun _ => kk M2 h2) (fun c => absurd rfl c)
set_option maxHeartbeats 1000000 in
set_option maxRecDepth 100000 in
theorem lcs_7 {X : Ctx} {V : Vx} {meth : Method} {cl sl : Nat} {Q : State → Prop} (C : Cx X V (mL meth) 9) {L : Nat} {xs : Nat → Int32} (S : Sc X V L xs) (hroom : cl ≤ (cR X).cells ∧ sl ≤ (cR X).slots) {M : Mm} (hR : Rel M) {i : Nat} (hi : i + 8 ≤ L) (kk : ∀ M1, Rel M1 → AW X V 4 T0 M1 cl sl Q 1508 [(3, .int (nI i)), (2, .ref 96), (1, .ref 0), (0, .retAddr 0)] []) : AW X V 4 T0 M cl sl Q 441 [(3, .int (nI i)), (2, .ref 96), (1, .ref 0), (0, .retAddr 0)] [] := by
  obtain ⟨v, P1, hx, hm⟩ := op_thing hR (xs (i + 1)) (xs (i + 2)) (xs (i + 3))
  refine ar_aload_n (n := 2) C dL_law_441 rfl rfl ?_
  refine ar_aload_nX (n := 3) C dL_law_442 rfl rfl ?_
  refine ar_iload_n (n := 0) C dL_law_443 rfl rfl ?_
  refine ar_iconst (v := 1) C dL_law_444 (by decide) ?_
  refine ar_iadd C dL_law_445 ?_
  refine ar_sld (j := i + 1) C S (show nI i + 1 = nI (i + 1) from nI_add i 1) (by omega) dL_law_446 ?_
  refine ar_aload_nX (n := 3) C dL_law_447 rfl rfl ?_
  refine ar_iload_n (n := 0) C dL_law_448 rfl rfl ?_
  refine ar_iconst (v := 2) C dL_law_449 (by decide) ?_
  refine ar_iadd C dL_law_450 ?_
  refine ar_sld (j := i + 2) C S (show nI i + 2 = nI (i + 2) from nI_add i 2) (by omega) dL_law_451 ?_
  refine ar_aload_nX (n := 3) C dL_law_452 rfl rfl ?_
  refine ar_iload_n (n := 0) C dL_law_453 rfl rfl ?_
  refine ar_iconst (v := 3) C dL_law_454 (by decide) ?_
  refine ar_iadd C dL_law_455 ?_
  refine ar_sld (j := i + 3) C S (show nI i + 3 = nI (i + 3) from nI_add i 3) (by omega) dL_law_456 ?_
  refine cLi (ar := [.int (xs (i + 1)), .int (xs (i + 2)), .int (xs (i + 3))]) (st := []) C lkL_45 kd_0 hx (by decide) rfl (Nat.le_of_ble_eq_true rfl) rfl hroom dL_law_457 (fun M1 h1 => ?_)
  refine ar_aload_n (n := 1) C dL_law_460 rfl rfl ?_
  refine ar_aload_nX (n := 3) C dL_law_461 rfl rfl ?_
  refine ar_iload_n (n := 0) C dL_law_462 rfl rfl ?_
  refine ar_iconst (v := 1) C dL_law_463 (by decide) ?_
  refine ar_iadd C dL_law_464 ?_
  refine ar_sld (j := i + 1) C S (show nI i + 1 = nI (i + 1) from nI_add i 1) (by omega) dL_law_465 ?_
  refine ar_aload_nX (n := 3) C dL_law_466 rfl rfl ?_
  refine ar_iload_n (n := 0) C dL_law_467 rfl rfl ?_
  refine ar_iconst (v := 2) C dL_law_468 (by decide) ?_
  refine ar_iadd C dL_law_469 ?_
  refine ar_sld (j := i + 2) C S (show nI i + 2 = nI (i + 2) from nI_add i 2) (by omega) dL_law_470 ?_
  refine ar_aload_nX (n := 3) C dL_law_471 rfl rfl ?_
  refine ar_iload_n (n := 0) C dL_law_472 rfl rfl ?_
  refine ar_iconst (v := 3) C dL_law_473 (by decide) ?_
  refine ar_iadd C dL_law_474 ?_
  refine ar_sld (j := i + 3) C S (show nI i + 3 = nI (i + 3) from nI_add i 3) (by omega) dL_law_475 ?_
  refine cLi (ar := [.int (xs (i + 1)), .int (xs (i + 2)), .int (xs (i + 3))]) (st := [.int v]) C lkL_48 kd_96 (hm M1 h1) (by decide) rfl (Nat.le_of_ble_eq_true rfl) rfl hroom dL_law_476 (fun M2 h2 => ?_)
  exact ar_icmp_eq (tgt := 1508) C dL_law_479 (by decide) (fun _ => kk M2 h2) (fun c => absurd rfl c)
set_option maxHeartbeats 1000000 in
set_option maxRecDepth 100000 in
theorem lcs_8 {X : Ctx} {V : Vx} {meth : Method} {cl sl : Nat} {Q : State → Prop} (C : Cx X V (mL meth) 9) {L : Nat} {xs : Nat → Int32} (S : Sc X V L xs) (hroom : cl ≤ (cR X).cells ∧ sl ≤ (cR X).slots) {M : Mm} (hR : Rel M) {i : Nat} (hi : i + 8 ≤ L) (kk : ∀ M1, Rel M1 → AW X V 4 T0 M1 cl sl Q 1508 [(3, .int (nI i)), (2, .ref 96), (1, .ref 0), (0, .retAddr 0)] []) : AW X V 4 T0 M cl sl Q 484 [(3, .int (nI i)), (2, .ref 96), (1, .ref 0), (0, .retAddr 0)] [] := by
  obtain ⟨v, P1, hx, hm⟩ := op_move hR (xs (i + 1)) (xs (i + 2)) (xs (i + 3)) (xs (i + 4))
  refine ar_aload_n (n := 2) C dL_law_484 rfl rfl ?_
  refine ar_aload_nX (n := 3) C dL_law_485 rfl rfl ?_
  refine ar_iload_n (n := 0) C dL_law_486 rfl rfl ?_
  refine ar_iconst (v := 1) C dL_law_487 (by decide) ?_
  refine ar_iadd C dL_law_488 ?_
  refine ar_sld (j := i + 1) C S (show nI i + 1 = nI (i + 1) from nI_add i 1) (by omega) dL_law_489 ?_
  refine ar_aload_nX (n := 3) C dL_law_490 rfl rfl ?_
  refine ar_iload_n (n := 0) C dL_law_491 rfl rfl ?_
  refine ar_iconst (v := 2) C dL_law_492 (by decide) ?_
  refine ar_iadd C dL_law_493 ?_
  refine ar_sld (j := i + 2) C S (show nI i + 2 = nI (i + 2) from nI_add i 2) (by omega) dL_law_494 ?_
  refine ar_aload_nX (n := 3) C dL_law_495 rfl rfl ?_
  refine ar_iload_n (n := 0) C dL_law_496 rfl rfl ?_
  refine ar_iconst (v := 3) C dL_law_497 (by decide) ?_
  refine ar_iadd C dL_law_498 ?_
  refine ar_sld (j := i + 3) C S (show nI i + 3 = nI (i + 3) from nI_add i 3) (by omega) dL_law_499 ?_
  refine ar_aload_nX (n := 3) C dL_law_500 rfl rfl ?_
  refine ar_iload_n (n := 0) C dL_law_501 rfl rfl ?_
  refine ar_iconst (v := 4) C dL_law_502 (by decide) ?_
  refine ar_iadd C dL_law_503 ?_
  refine ar_sld (j := i + 4) C S (show nI i + 4 = nI (i + 4) from nI_add i 4) (by omega) dL_law_504 ?_
  refine cLi (ar := [.int (xs (i + 1)), .int (xs (i + 2)), .int (xs (i + 3)), .int (xs (i + 4))]) (st := []) C lkL_49 kd_0 hx (by decide) rfl (Nat.le_of_ble_eq_true rfl) rfl hroom dL_law_505 (fun M1 h1 => ?_)
  refine ar_aload_n (n := 1) C dL_law_508 rfl rfl ?_
  refine ar_aload_nX (n := 3) C dL_law_509 rfl rfl ?_
  refine ar_iload_n (n := 0) C dL_law_510 rfl rfl ?_
  refine ar_iconst (v := 1) C dL_law_511 (by decide) ?_
  refine ar_iadd C dL_law_512 ?_
  refine ar_sld (j := i + 1) C S (show nI i + 1 = nI (i + 1) from nI_add i 1) (by omega) dL_law_513 ?_
  refine ar_aload_nX (n := 3) C dL_law_514 rfl rfl ?_
  refine ar_iload_n (n := 0) C dL_law_515 rfl rfl ?_
  refine ar_iconst (v := 2) C dL_law_516 (by decide) ?_
  refine ar_iadd C dL_law_517 ?_
  refine ar_sld (j := i + 2) C S (show nI i + 2 = nI (i + 2) from nI_add i 2) (by omega) dL_law_518 ?_
  refine ar_aload_nX (n := 3) C dL_law_519 rfl rfl ?_
  refine ar_iload_n (n := 0) C dL_law_520 rfl rfl ?_
  refine ar_iconst (v := 3) C dL_law_521 (by decide) ?_
  refine ar_iadd C dL_law_522 ?_
  refine ar_sld (j := i + 3) C S (show nI i + 3 = nI (i + 3) from nI_add i 3) (by omega) dL_law_523 ?_
  refine ar_aload_nX (n := 3) C dL_law_524 rfl rfl ?_
  refine ar_iload_n (n := 0) C dL_law_525 rfl rfl ?_
  refine ar_iconst (v := 4) C dL_law_526 (by decide) ?_
  refine ar_iadd C dL_law_527 ?_
  refine ar_sld (j := i + 4) C S (show nI i + 4 = nI (i + 4) from nI_add i 4) (by omega) dL_law_528 ?_
  refine cLi (ar := [.int (xs (i + 1)), .int (xs (i + 2)), .int (xs (i + 3)), .int (xs (i + 4))]) (st := [.int v]) C lkL_53 kd_96 (hm M1 h1) (by decide) rfl (Nat.le_of_ble_eq_true rfl) rfl hroom dL_law_529 (fun M2 h2 => ?_)
  exact ar_icmp_eq (tgt := 1508) C dL_law_532 (by decide) (fun _ => kk M2 h2) (fun c => absurd rfl c)
set_option maxHeartbeats 1000000 in
set_option maxRecDepth 100000 in
theorem lcs_9 {X : Ctx} {V : Vx} {meth : Method} {cl sl : Nat} {Q : State → Prop} (C : Cx X V (mL meth) 9) {L : Nat} {xs : Nat → Int32} (S : Sc X V L xs) (hroom : cl ≤ (cR X).cells ∧ sl ≤ (cR X).slots) {M : Mm} (hR : Rel M) {i : Nat} (hi : i + 8 ≤ L) (kk : ∀ M1, Rel M1 → AW X V 4 T0 M1 cl sl Q 1508 [(3, .int (nI i)), (2, .ref 96), (1, .ref 0), (0, .retAddr 0)] []) : AW X V 4 T0 M cl sl Q 537 [(3, .int (nI i)), (2, .ref 96), (1, .ref 0), (0, .retAddr 0)] [] := by
  obtain ⟨v, P1, hx, hm⟩ := op_picture hR (xs (i + 1)) (xs (i + 2))
  refine ar_aload_n (n := 2) C dL_law_537 rfl rfl ?_
  refine ar_aload_nX (n := 3) C dL_law_538 rfl rfl ?_
  refine ar_iload_n (n := 0) C dL_law_539 rfl rfl ?_
  refine ar_iconst (v := 1) C dL_law_540 (by decide) ?_
  refine ar_iadd C dL_law_541 ?_
  refine ar_sld (j := i + 1) C S (show nI i + 1 = nI (i + 1) from nI_add i 1) (by omega) dL_law_542 ?_
  refine ar_aload_nX (n := 3) C dL_law_543 rfl rfl ?_
  refine ar_iload_n (n := 0) C dL_law_544 rfl rfl ?_
  refine ar_iconst (v := 2) C dL_law_545 (by decide) ?_
  refine ar_iadd C dL_law_546 ?_
  refine ar_sld (j := i + 2) C S (show nI i + 2 = nI (i + 2) from nI_add i 2) (by omega) dL_law_547 ?_
  refine cLi (ar := [.int (xs (i + 1)), .int (xs (i + 2))]) (st := []) C lkL_54 kd_0 hx (by decide) rfl (Nat.le_of_ble_eq_true rfl) rfl hroom dL_law_548 (fun M1 h1 => ?_)
  refine ar_aload_n (n := 1) C dL_law_551 rfl rfl ?_
  refine ar_aload_nX (n := 3) C dL_law_552 rfl rfl ?_
  refine ar_iload_n (n := 0) C dL_law_553 rfl rfl ?_
  refine ar_iconst (v := 1) C dL_law_554 (by decide) ?_
  refine ar_iadd C dL_law_555 ?_
  refine ar_sld (j := i + 1) C S (show nI i + 1 = nI (i + 1) from nI_add i 1) (by omega) dL_law_556 ?_
  refine ar_aload_nX (n := 3) C dL_law_557 rfl rfl ?_
  refine ar_iload_n (n := 0) C dL_law_558 rfl rfl ?_
  refine ar_iconst (v := 2) C dL_law_559 (by decide) ?_
  refine ar_iadd C dL_law_560 ?_
  refine ar_sld (j := i + 2) C S (show nI i + 2 = nI (i + 2) from nI_add i 2) (by omega) dL_law_561 ?_
  refine cLi (ar := [.int (xs (i + 1)), .int (xs (i + 2))]) (st := [.int v]) C lkL_57 kd_96 (hm M1 h1) (by decide) rfl (Nat.le_of_ble_eq_true rfl) rfl hroom dL_law_562 (fun M2 h2 => ?_)
  exact ar_icmp_eq (tgt := 1508) C dL_law_565 (by decide) (fun _ => kk M2 h2) (fun c => absurd rfl c)
set_option maxHeartbeats 1000000 in
set_option maxRecDepth 100000 in
theorem lcs_10 {X : Ctx} {V : Vx} {meth : Method} {cl sl : Nat} {Q : State → Prop} (C : Cx X V (mL meth) 9) {L : Nat} {xs : Nat → Int32} (S : Sc X V L xs) (hroom : cl ≤ (cR X).cells ∧ sl ≤ (cR X).slots) {M : Mm} (hR : Rel M) {i : Nat} (hi : i + 8 ≤ L) (kk : ∀ M1, Rel M1 → AW X V 4 T0 M1 cl sl Q 1508 [(3, .int (nI i)), (2, .ref 96), (1, .ref 0), (0, .retAddr 0)] []) : AW X V 4 T0 M cl sl Q 570 [(3, .int (nI i)), (2, .ref 96), (1, .ref 0), (0, .retAddr 0)] [] := by
  obtain ⟨v, P1, hx, hm⟩ := op_focused hR (xs (i + 1)) (xs (i + 2))
  refine ar_aload_n (n := 2) C dL_law_570 rfl rfl ?_
  refine ar_aload_nX (n := 3) C dL_law_571 rfl rfl ?_
  refine ar_iload_n (n := 0) C dL_law_572 rfl rfl ?_
  refine ar_iconst (v := 1) C dL_law_573 (by decide) ?_
  refine ar_iadd C dL_law_574 ?_
  refine ar_sld (j := i + 1) C S (show nI i + 1 = nI (i + 1) from nI_add i 1) (by omega) dL_law_575 ?_
  refine ar_aload_nX (n := 3) C dL_law_576 rfl rfl ?_
  refine ar_iload_n (n := 0) C dL_law_577 rfl rfl ?_
  refine ar_iconst (v := 2) C dL_law_578 (by decide) ?_
  refine ar_iadd C dL_law_579 ?_
  refine ar_sld (j := i + 2) C S (show nI i + 2 = nI (i + 2) from nI_add i 2) (by omega) dL_law_580 ?_
  refine cLi (ar := [.int (xs (i + 1)), .int (xs (i + 2))]) (st := []) C lkL_58 kd_0 hx (by decide) rfl (Nat.le_of_ble_eq_true rfl) rfl hroom dL_law_581 (fun M1 h1 => ?_)
  refine ar_aload_n (n := 1) C dL_law_584 rfl rfl ?_
  refine ar_aload_nX (n := 3) C dL_law_585 rfl rfl ?_
  refine ar_iload_n (n := 0) C dL_law_586 rfl rfl ?_
  refine ar_iconst (v := 1) C dL_law_587 (by decide) ?_
  refine ar_iadd C dL_law_588 ?_
  refine ar_sld (j := i + 1) C S (show nI i + 1 = nI (i + 1) from nI_add i 1) (by omega) dL_law_589 ?_
  refine ar_aload_nX (n := 3) C dL_law_590 rfl rfl ?_
  refine ar_iload_n (n := 0) C dL_law_591 rfl rfl ?_
  refine ar_iconst (v := 2) C dL_law_592 (by decide) ?_
  refine ar_iadd C dL_law_593 ?_
  refine ar_sld (j := i + 2) C S (show nI i + 2 = nI (i + 2) from nI_add i 2) (by omega) dL_law_594 ?_
  refine cLi (ar := [.int (xs (i + 1)), .int (xs (i + 2))]) (st := [.int v]) C lkL_61 kd_96 (hm M1 h1) (by decide) rfl (Nat.le_of_ble_eq_true rfl) rfl hroom dL_law_595 (fun M2 h2 => ?_)
  exact ar_icmp_eq (tgt := 1508) C dL_law_598 (by decide) (fun _ => kk M2 h2) (fun c => absurd rfl c)
set_option maxHeartbeats 1000000 in
set_option maxRecDepth 100000 in
theorem lcs_11 {X : Ctx} {V : Vx} {meth : Method} {cl sl : Nat} {Q : State → Prop} (C : Cx X V (mL meth) 9) {L : Nat} {xs : Nat → Int32} (S : Sc X V L xs) (hroom : cl ≤ (cR X).cells ∧ sl ≤ (cR X).slots) {M : Mm} (hR : Rel M) {i : Nat} (hi : i + 8 ≤ L) (kk : ∀ M1, Rel M1 → AW X V 4 T0 M1 cl sl Q 1508 [(3, .int (nI i)), (2, .ref 96), (1, .ref 0), (0, .retAddr 0)] []) : AW X V 4 T0 M cl sl Q 603 [(3, .int (nI i)), (2, .ref 96), (1, .ref 0), (0, .retAddr 0)] [] := by
  obtain ⟨v, P1, hx, hm⟩ := op_bent hR 
  refine ar_aload_n (n := 2) C dL_law_603 rfl rfl ?_
  refine cLi (ar := []) (st := []) C lkL_62 kd_0 hx (by decide) rfl (Nat.le_of_ble_eq_true rfl) rfl hroom dL_law_604 (fun M1 h1 => ?_)
  refine ar_aload_n (n := 1) C dL_law_607 rfl rfl ?_
  refine cLi (ar := []) (st := [.int v]) C lkL_66 kd_96 (hm M1 h1) (by decide) rfl (Nat.le_of_ble_eq_true rfl) rfl hroom dL_law_608 (fun M2 h2 => ?_)
  exact ar_icmp_eq (tgt := 1508) C dL_law_611 (by decide) (fun _ => kk M2 h2) (fun c => absurd rfl c)
set_option maxHeartbeats 1000000 in
set_option maxRecDepth 100000 in
theorem lcs_12 {X : Ctx} {V : Vx} {meth : Method} {cl sl : Nat} {Q : State → Prop} (C : Cx X V (mL meth) 9) {L : Nat} {xs : Nat → Int32} (S : Sc X V L xs) (hroom : cl ≤ (cR X).cells ∧ sl ≤ (cR X).slots) {M : Mm} (hR : Rel M) {i : Nat} (hi : i + 8 ≤ L) (kk : ∀ M1, Rel M1 → AW X V 4 T0 M1 cl sl Q 1508 [(3, .int (nI i)), (2, .ref 96), (1, .ref 0), (0, .retAddr 0)] []) : AW X V 4 T0 M cl sl Q 616 [(3, .int (nI i)), (2, .ref 96), (1, .ref 0), (0, .retAddr 0)] [] := by
  obtain ⟨v, P1, hx, hm⟩ := op_mark hR (xs (i + 1)) (xs (i + 2)) (xs (i + 3)) (xs (i + 4))
  refine ar_aload_n (n := 2) C dL_law_616 rfl rfl ?_
  refine ar_aload_nX (n := 3) C dL_law_617 rfl rfl ?_
  refine ar_iload_n (n := 0) C dL_law_618 rfl rfl ?_
  refine ar_iconst (v := 1) C dL_law_619 (by decide) ?_
  refine ar_iadd C dL_law_620 ?_
  refine ar_sld (j := i + 1) C S (show nI i + 1 = nI (i + 1) from nI_add i 1) (by omega) dL_law_621 ?_
  refine ar_aload_nX (n := 3) C dL_law_622 rfl rfl ?_
  refine ar_iload_n (n := 0) C dL_law_623 rfl rfl ?_
  refine ar_iconst (v := 2) C dL_law_624 (by decide) ?_
  refine ar_iadd C dL_law_625 ?_
  refine ar_sld (j := i + 2) C S (show nI i + 2 = nI (i + 2) from nI_add i 2) (by omega) dL_law_626 ?_
  refine ar_aload_nX (n := 3) C dL_law_627 rfl rfl ?_
  refine ar_iload_n (n := 0) C dL_law_628 rfl rfl ?_
  refine ar_iconst (v := 3) C dL_law_629 (by decide) ?_
  refine ar_iadd C dL_law_630 ?_
  refine ar_sld (j := i + 3) C S (show nI i + 3 = nI (i + 3) from nI_add i 3) (by omega) dL_law_631 ?_
  refine ar_aload_nX (n := 3) C dL_law_632 rfl rfl ?_
  refine ar_iload_n (n := 0) C dL_law_633 rfl rfl ?_
  refine ar_iconst (v := 4) C dL_law_634 (by decide) ?_
  refine ar_iadd C dL_law_635 ?_
  refine ar_sld (j := i + 4) C S (show nI i + 4 = nI (i + 4) from nI_add i 4) (by omega) dL_law_636 ?_
  refine cLi (ar := [.int (xs (i + 1)), .int (xs (i + 2)), .int (xs (i + 3)), .int (xs (i + 4))]) (st := []) C lkL_67 kd_0 hx (by decide) rfl (Nat.le_of_ble_eq_true rfl) rfl hroom dL_law_637 (fun M1 h1 => ?_)
  refine ar_aload_n (n := 1) C dL_law_640 rfl rfl ?_
  refine ar_aload_nX (n := 3) C dL_law_641 rfl rfl ?_
  refine ar_iload_n (n := 0) C dL_law_642 rfl rfl ?_
  refine ar_iconst (v := 1) C dL_law_643 (by decide) ?_
  refine ar_iadd C dL_law_644 ?_
  refine ar_sld (j := i + 1) C S (show nI i + 1 = nI (i + 1) from nI_add i 1) (by omega) dL_law_645 ?_
  refine ar_aload_nX (n := 3) C dL_law_646 rfl rfl ?_
  refine ar_iload_n (n := 0) C dL_law_647 rfl rfl ?_
  refine ar_iconst (v := 2) C dL_law_648 (by decide) ?_
  refine ar_iadd C dL_law_649 ?_
  refine ar_sld (j := i + 2) C S (show nI i + 2 = nI (i + 2) from nI_add i 2) (by omega) dL_law_650 ?_
  refine ar_aload_nX (n := 3) C dL_law_651 rfl rfl ?_
  refine ar_iload_n (n := 0) C dL_law_652 rfl rfl ?_
  refine ar_iconst (v := 3) C dL_law_653 (by decide) ?_
  refine ar_iadd C dL_law_654 ?_
  refine ar_sld (j := i + 3) C S (show nI i + 3 = nI (i + 3) from nI_add i 3) (by omega) dL_law_655 ?_
  refine ar_aload_nX (n := 3) C dL_law_656 rfl rfl ?_
  refine ar_iload_n (n := 0) C dL_law_657 rfl rfl ?_
  refine ar_iconst (v := 4) C dL_law_658 (by decide) ?_
  refine ar_iadd C dL_law_659 ?_
  refine ar_sld (j := i + 4) C S (show nI i + 4 = nI (i + 4) from nI_add i 4) (by omega) dL_law_660 ?_
  refine cLi (ar := [.int (xs (i + 1)), .int (xs (i + 2)), .int (xs (i + 3)), .int (xs (i + 4))]) (st := [.int v]) C lkL_70 kd_96 (hm M1 h1) (by decide) rfl (Nat.le_of_ble_eq_true rfl) rfl hroom dL_law_661 (fun M2 h2 => ?_)
  exact ar_icmp_eq (tgt := 1508) C dL_law_664 (by decide) (fun _ => kk M2 h2) (fun c => absurd rfl c)
set_option maxHeartbeats 1000000 in
set_option maxRecDepth 100000 in
theorem lcs_13 {X : Ctx} {V : Vx} {meth : Method} {cl sl : Nat} {Q : State → Prop} (C : Cx X V (mL meth) 9) {L : Nat} {xs : Nat → Int32} (S : Sc X V L xs) (hroom : cl ≤ (cR X).cells ∧ sl ≤ (cR X).slots) {M : Mm} (hR : Rel M) {i : Nat} (hi : i + 8 ≤ L) (kk : ∀ M1, Rel M1 → AW X V 4 T0 M1 cl sl Q 1508 [(3, .int (nI i)), (2, .ref 96), (1, .ref 0), (0, .retAddr 0)] []) : AW X V 4 T0 M cl sl Q 669 [(3, .int (nI i)), (2, .ref 96), (1, .ref 0), (0, .retAddr 0)] [] := by
  obtain ⟨v, P1, hx, hm⟩ := op_rub hR (xs (i + 1)) (xs (i + 2))
  refine ar_aload_n (n := 2) C dL_law_669 rfl rfl ?_
  refine ar_aload_nX (n := 3) C dL_law_670 rfl rfl ?_
  refine ar_iload_n (n := 0) C dL_law_671 rfl rfl ?_
  refine ar_iconst (v := 1) C dL_law_672 (by decide) ?_
  refine ar_iadd C dL_law_673 ?_
  refine ar_sld (j := i + 1) C S (show nI i + 1 = nI (i + 1) from nI_add i 1) (by omega) dL_law_674 ?_
  refine ar_aload_nX (n := 3) C dL_law_675 rfl rfl ?_
  refine ar_iload_n (n := 0) C dL_law_676 rfl rfl ?_
  refine ar_iconst (v := 2) C dL_law_677 (by decide) ?_
  refine ar_iadd C dL_law_678 ?_
  refine ar_sld (j := i + 2) C S (show nI i + 2 = nI (i + 2) from nI_add i 2) (by omega) dL_law_679 ?_
  refine cLi (ar := [.int (xs (i + 1)), .int (xs (i + 2))]) (st := []) C lkL_71 kd_0 hx (by decide) rfl (Nat.le_of_ble_eq_true rfl) rfl hroom dL_law_680 (fun M1 h1 => ?_)
  refine ar_aload_n (n := 1) C dL_law_683 rfl rfl ?_
  refine ar_aload_nX (n := 3) C dL_law_684 rfl rfl ?_
  refine ar_iload_n (n := 0) C dL_law_685 rfl rfl ?_
  refine ar_iconst (v := 1) C dL_law_686 (by decide) ?_
  refine ar_iadd C dL_law_687 ?_
  refine ar_sld (j := i + 1) C S (show nI i + 1 = nI (i + 1) from nI_add i 1) (by omega) dL_law_688 ?_
  refine ar_aload_nX (n := 3) C dL_law_689 rfl rfl ?_
  refine ar_iload_n (n := 0) C dL_law_690 rfl rfl ?_
  refine ar_iconst (v := 2) C dL_law_691 (by decide) ?_
  refine ar_iadd C dL_law_692 ?_
  refine ar_sld (j := i + 2) C S (show nI i + 2 = nI (i + 2) from nI_add i 2) (by omega) dL_law_693 ?_
  refine cLi (ar := [.int (xs (i + 1)), .int (xs (i + 2))]) (st := [.int v]) C lkL_74 kd_96 (hm M1 h1) (by decide) rfl (Nat.le_of_ble_eq_true rfl) rfl hroom dL_law_694 (fun M2 h2 => ?_)
  exact ar_icmp_eq (tgt := 1508) C dL_law_697 (by decide) (fun _ => kk M2 h2) (fun c => absurd rfl c)
set_option maxHeartbeats 1000000 in
set_option maxRecDepth 100000 in
theorem lcs_14 {X : Ctx} {V : Vx} {meth : Method} {cl sl : Nat} {Q : State → Prop} (C : Cx X V (mL meth) 9) {L : Nat} {xs : Nat → Int32} (S : Sc X V L xs) (hroom : cl ≤ (cR X).cells ∧ sl ≤ (cR X).slots) {M : Mm} (hR : Rel M) {i : Nat} (hi : i + 8 ≤ L) (kk : ∀ M1, Rel M1 → AW X V 4 T0 M1 cl sl Q 1508 [(3, .int (nI i)), (2, .ref 96), (1, .ref 0), (0, .retAddr 0)] []) : AW X V 4 T0 M cl sl Q 702 [(3, .int (nI i)), (2, .ref 96), (1, .ref 0), (0, .retAddr 0)] [] := by
  obtain ⟨dd, hdd, v, P1, hx, hm⟩ := op_draw hR (xs (i + 1))
  refine ar_aload_n (n := 2) C dL_law_702 rfl rfl ?_
  refine ar_aload_nX (n := 3) C dL_law_703 rfl rfl ?_
  refine ar_iload_n (n := 0) C dL_law_704 rfl rfl ?_
  refine ar_iconst (v := 1) C dL_law_705 (by decide) ?_
  refine ar_iadd C dL_law_706 ?_
  refine ar_sld (j := i + 1) C S (show nI i + 1 = nI (i + 1) from nI_add i 1) (by omega) dL_law_707 ?_
  refine cLi (ar := [.int (xs (i + 1))]) (st := []) C lkL_75 kd_0 hx (by omega) rfl (Nat.le_of_ble_eq_true rfl) rfl hroom dL_law_708 (fun M1 h1 => ?_)
  refine ar_aload_n (n := 1) C dL_law_711 rfl rfl ?_
  refine ar_aload_nX (n := 3) C dL_law_712 rfl rfl ?_
  refine ar_iload_n (n := 0) C dL_law_713 rfl rfl ?_
  refine ar_iconst (v := 1) C dL_law_714 (by decide) ?_
  refine ar_iadd C dL_law_715 ?_
  refine ar_sld (j := i + 1) C S (show nI i + 1 = nI (i + 1) from nI_add i 1) (by omega) dL_law_716 ?_
  refine cLi (ar := [.int (xs (i + 1))]) (st := [.int v]) C lkL_78 kd_96 (hm M1 h1) (by decide) rfl (Nat.le_of_ble_eq_true rfl) rfl hroom dL_law_717 (fun M2 h2 => ?_)
  exact ar_icmp_eq (tgt := 1508) C dL_law_720 (by decide) (fun _ => kk M2 h2) (fun c => absurd rfl c)
set_option maxHeartbeats 1000000 in
set_option maxRecDepth 100000 in
theorem lcs_15 {X : Ctx} {V : Vx} {meth : Method} {cl sl : Nat} {Q : State → Prop} (C : Cx X V (mL meth) 9) {L : Nat} {xs : Nat → Int32} (S : Sc X V L xs) (hroom : cl ≤ (cR X).cells ∧ sl ≤ (cR X).slots) {M : Mm} (hR : Rel M) {i : Nat} (hi : i + 8 ≤ L) (kk : ∀ M1, Rel M1 → AW X V 4 T0 M1 cl sl Q 1508 [(3, .int (nI i)), (2, .ref 96), (1, .ref 0), (0, .retAddr 0)] []) : AW X V 4 T0 M cl sl Q 725 [(3, .int (nI i)), (2, .ref 96), (1, .ref 0), (0, .retAddr 0)] [] := by
  obtain ⟨v, P1, hx, hm⟩ := op_marked hR (xs (i + 1)) (xs (i + 2)) (xs (i + 3))
  refine ar_aload_n (n := 2) C dL_law_725 rfl rfl ?_
  refine ar_aload_nX (n := 3) C dL_law_726 rfl rfl ?_
  refine ar_iload_n (n := 0) C dL_law_727 rfl rfl ?_
  refine ar_iconst (v := 1) C dL_law_728 (by decide) ?_
  refine ar_iadd C dL_law_729 ?_
  refine ar_sld (j := i + 1) C S (show nI i + 1 = nI (i + 1) from nI_add i 1) (by omega) dL_law_730 ?_
  refine ar_aload_nX (n := 3) C dL_law_731 rfl rfl ?_
  refine ar_iload_n (n := 0) C dL_law_732 rfl rfl ?_
  refine ar_iconst (v := 2) C dL_law_733 (by decide) ?_
  refine ar_iadd C dL_law_734 ?_
  refine ar_sld (j := i + 2) C S (show nI i + 2 = nI (i + 2) from nI_add i 2) (by omega) dL_law_735 ?_
  refine ar_aload_nX (n := 3) C dL_law_736 rfl rfl ?_
  refine ar_iload_n (n := 0) C dL_law_737 rfl rfl ?_
  refine ar_iconst (v := 3) C dL_law_738 (by decide) ?_
  refine ar_iadd C dL_law_739 ?_
  refine ar_sld (j := i + 3) C S (show nI i + 3 = nI (i + 3) from nI_add i 3) (by omega) dL_law_740 ?_
  refine cLi (ar := [.int (xs (i + 1)), .int (xs (i + 2)), .int (xs (i + 3))]) (st := []) C lkL_79 kd_0 hx (by decide) rfl (Nat.le_of_ble_eq_true rfl) rfl hroom dL_law_741 (fun M1 h1 => ?_)
  refine ar_aload_n (n := 1) C dL_law_744 rfl rfl ?_
  refine ar_aload_nX (n := 3) C dL_law_745 rfl rfl ?_
  refine ar_iload_n (n := 0) C dL_law_746 rfl rfl ?_
  refine ar_iconst (v := 1) C dL_law_747 (by decide) ?_
  refine ar_iadd C dL_law_748 ?_
  refine ar_sld (j := i + 1) C S (show nI i + 1 = nI (i + 1) from nI_add i 1) (by omega) dL_law_749 ?_
  refine ar_aload_nX (n := 3) C dL_law_750 rfl rfl ?_
  refine ar_iload_n (n := 0) C dL_law_751 rfl rfl ?_
  refine ar_iconst (v := 2) C dL_law_752 (by decide) ?_
  refine ar_iadd C dL_law_753 ?_
  refine ar_sld (j := i + 2) C S (show nI i + 2 = nI (i + 2) from nI_add i 2) (by omega) dL_law_754 ?_
  refine ar_aload_nX (n := 3) C dL_law_755 rfl rfl ?_
  refine ar_iload_n (n := 0) C dL_law_756 rfl rfl ?_
  refine ar_iconst (v := 3) C dL_law_757 (by decide) ?_
  refine ar_iadd C dL_law_758 ?_
  refine ar_sld (j := i + 3) C S (show nI i + 3 = nI (i + 3) from nI_add i 3) (by omega) dL_law_759 ?_
  refine cLi (ar := [.int (xs (i + 1)), .int (xs (i + 2)), .int (xs (i + 3))]) (st := [.int v]) C lkL_82 kd_96 (hm M1 h1) (by decide) rfl (Nat.le_of_ble_eq_true rfl) rfl hroom dL_law_760 (fun M2 h2 => ?_)
  exact ar_icmp_eq (tgt := 1508) C dL_law_763 (by decide) (fun _ => kk M2 h2) (fun c => absurd rfl c)
set_option maxHeartbeats 1000000 in
set_option maxRecDepth 100000 in
theorem lcs_16 {X : Ctx} {V : Vx} {meth : Method} {cl sl : Nat} {Q : State → Prop} (C : Cx X V (mL meth) 9) {L : Nat} {xs : Nat → Int32} (S : Sc X V L xs) (hroom : cl ≤ (cR X).cells ∧ sl ≤ (cR X).slots) {M : Mm} (hR : Rel M) {i : Nat} (hi : i + 8 ≤ L) (kk : ∀ M1, Rel M1 → AW X V 4 T0 M1 cl sl Q 1508 [(3, .int (nI i)), (2, .ref 96), (1, .ref 0), (0, .retAddr 0)] []) : AW X V 4 T0 M cl sl Q 768 [(3, .int (nI i)), (2, .ref 96), (1, .ref 0), (0, .retAddr 0)] [] := by
  obtain ⟨v, P1, hx, hm⟩ := op_joined hR (xs (i + 1)) (xs (i + 2)) (xs (i + 3))
  refine ar_aload_n (n := 2) C dL_law_768 rfl rfl ?_
  refine ar_aload_nX (n := 3) C dL_law_769 rfl rfl ?_
  refine ar_iload_n (n := 0) C dL_law_770 rfl rfl ?_
  refine ar_iconst (v := 1) C dL_law_771 (by decide) ?_
  refine ar_iadd C dL_law_772 ?_
  refine ar_sld (j := i + 1) C S (show nI i + 1 = nI (i + 1) from nI_add i 1) (by omega) dL_law_773 ?_
  refine ar_aload_nX (n := 3) C dL_law_774 rfl rfl ?_
  refine ar_iload_n (n := 0) C dL_law_775 rfl rfl ?_
  refine ar_iconst (v := 2) C dL_law_776 (by decide) ?_
  refine ar_iadd C dL_law_777 ?_
  refine ar_sld (j := i + 2) C S (show nI i + 2 = nI (i + 2) from nI_add i 2) (by omega) dL_law_778 ?_
  refine ar_aload_nX (n := 3) C dL_law_779 rfl rfl ?_
  refine ar_iload_n (n := 0) C dL_law_780 rfl rfl ?_
  refine ar_iconst (v := 3) C dL_law_781 (by decide) ?_
  refine ar_iadd C dL_law_782 ?_
  refine ar_sld (j := i + 3) C S (show nI i + 3 = nI (i + 3) from nI_add i 3) (by omega) dL_law_783 ?_
  refine cLi (ar := [.int (xs (i + 1)), .int (xs (i + 2)), .int (xs (i + 3))]) (st := []) C lkL_83 kd_0 hx (by decide) rfl (Nat.le_of_ble_eq_true rfl) rfl hroom dL_law_784 (fun M1 h1 => ?_)
  refine ar_aload_n (n := 1) C dL_law_787 rfl rfl ?_
  refine ar_aload_nX (n := 3) C dL_law_788 rfl rfl ?_
  refine ar_iload_n (n := 0) C dL_law_789 rfl rfl ?_
  refine ar_iconst (v := 1) C dL_law_790 (by decide) ?_
  refine ar_iadd C dL_law_791 ?_
  refine ar_sld (j := i + 1) C S (show nI i + 1 = nI (i + 1) from nI_add i 1) (by omega) dL_law_792 ?_
  refine ar_aload_nX (n := 3) C dL_law_793 rfl rfl ?_
  refine ar_iload_n (n := 0) C dL_law_794 rfl rfl ?_
  refine ar_iconst (v := 2) C dL_law_795 (by decide) ?_
  refine ar_iadd C dL_law_796 ?_
  refine ar_sld (j := i + 2) C S (show nI i + 2 = nI (i + 2) from nI_add i 2) (by omega) dL_law_797 ?_
  refine ar_aload_nX (n := 3) C dL_law_798 rfl rfl ?_
  refine ar_iload_n (n := 0) C dL_law_799 rfl rfl ?_
  refine ar_iconst (v := 3) C dL_law_800 (by decide) ?_
  refine ar_iadd C dL_law_801 ?_
  refine ar_sld (j := i + 3) C S (show nI i + 3 = nI (i + 3) from nI_add i 3) (by omega) dL_law_802 ?_
  refine cLi (ar := [.int (xs (i + 1)), .int (xs (i + 2)), .int (xs (i + 3))]) (st := [.int v]) C lkL_86 kd_96 (hm M1 h1) (by decide) rfl (Nat.le_of_ble_eq_true rfl) rfl hroom dL_law_803 (fun M2 h2 => ?_)
  exact ar_icmp_eq (tgt := 1508) C dL_law_806 (by decide) (fun _ => kk M2 h2) (fun c => absurd rfl c)
set_option maxHeartbeats 1000000 in
set_option maxRecDepth 100000 in
theorem lcs_17 {X : Ctx} {V : Vx} {meth : Method} {cl sl : Nat} {Q : State → Prop} (C : Cx X V (mL meth) 9) {L : Nat} {xs : Nat → Int32} (S : Sc X V L xs) (hroom : cl ≤ (cR X).cells ∧ sl ≤ (cR X).slots) {M : Mm} (hR : Rel M) {i : Nat} (hi : i + 8 ≤ L) (kk : ∀ M1, Rel M1 → AW X V 4 T0 M1 cl sl Q 1508 [(3, .int (nI i)), (2, .ref 96), (1, .ref 0), (0, .retAddr 0)] []) : AW X V 4 T0 M cl sl Q 811 [(3, .int (nI i)), (2, .ref 96), (1, .ref 0), (0, .retAddr 0)] [] := by
  obtain ⟨v, P1, hx, hm⟩ := op_round hR (xs (i + 1)) (xs (i + 2))
  refine ar_aload_n (n := 2) C dL_law_811 rfl rfl ?_
  refine ar_aload_nX (n := 3) C dL_law_812 rfl rfl ?_
  refine ar_iload_n (n := 0) C dL_law_813 rfl rfl ?_
  refine ar_iconst (v := 1) C dL_law_814 (by decide) ?_
  refine ar_iadd C dL_law_815 ?_
  refine ar_sld (j := i + 1) C S (show nI i + 1 = nI (i + 1) from nI_add i 1) (by omega) dL_law_816 ?_
  refine ar_aload_nX (n := 3) C dL_law_817 rfl rfl ?_
  refine ar_iload_n (n := 0) C dL_law_818 rfl rfl ?_
  refine ar_iconst (v := 2) C dL_law_819 (by decide) ?_
  refine ar_iadd C dL_law_820 ?_
  refine ar_sld (j := i + 2) C S (show nI i + 2 = nI (i + 2) from nI_add i 2) (by omega) dL_law_821 ?_
  refine cLi (ar := [.int (xs (i + 1)), .int (xs (i + 2))]) (st := []) C lkL_87 kd_0 hx (by decide) rfl (Nat.le_of_ble_eq_true rfl) rfl hroom dL_law_822 (fun M1 h1 => ?_)
  refine ar_aload_n (n := 1) C dL_law_825 rfl rfl ?_
  refine ar_aload_nX (n := 3) C dL_law_826 rfl rfl ?_
  refine ar_iload_n (n := 0) C dL_law_827 rfl rfl ?_
  refine ar_iconst (v := 1) C dL_law_828 (by decide) ?_
  refine ar_iadd C dL_law_829 ?_
  refine ar_sld (j := i + 1) C S (show nI i + 1 = nI (i + 1) from nI_add i 1) (by omega) dL_law_830 ?_
  refine ar_aload_nX (n := 3) C dL_law_831 rfl rfl ?_
  refine ar_iload_n (n := 0) C dL_law_832 rfl rfl ?_
  refine ar_iconst (v := 2) C dL_law_833 (by decide) ?_
  refine ar_iadd C dL_law_834 ?_
  refine ar_sld (j := i + 2) C S (show nI i + 2 = nI (i + 2) from nI_add i 2) (by omega) dL_law_835 ?_
  refine cLi (ar := [.int (xs (i + 1)), .int (xs (i + 2))]) (st := [.int v]) C lkL_90 kd_96 (hm M1 h1) (by decide) rfl (Nat.le_of_ble_eq_true rfl) rfl hroom dL_law_836 (fun M2 h2 => ?_)
  exact ar_icmp_eq (tgt := 1508) C dL_law_839 (by decide) (fun _ => kk M2 h2) (fun c => absurd rfl c)
set_option maxHeartbeats 1000000 in
set_option maxRecDepth 100000 in
theorem lcs_18 {X : Ctx} {V : Vx} {meth : Method} {cl sl : Nat} {Q : State → Prop} (C : Cx X V (mL meth) 9) {L : Nat} {xs : Nat → Int32} (S : Sc X V L xs) (hroom : cl ≤ (cR X).cells ∧ sl ≤ (cR X).slots) {M : Mm} (hR : Rel M) {i : Nat} (hi : i + 8 ≤ L) (kk : ∀ M1, Rel M1 → AW X V 4 T0 M1 cl sl Q 1508 [(3, .int (nI i)), (2, .ref 96), (1, .ref 0), (0, .retAddr 0)] []) : AW X V 4 T0 M cl sl Q 844 [(3, .int (nI i)), (2, .ref 96), (1, .ref 0), (0, .retAddr 0)] [] := by
  obtain ⟨v, P1, hx, hm⟩ := op_around hR (xs (i + 1)) (xs (i + 2)) (xs (i + 3))
  refine ar_aload_n (n := 2) C dL_law_844 rfl rfl ?_
  refine ar_aload_nX (n := 3) C dL_law_845 rfl rfl ?_
  refine ar_iload_n (n := 0) C dL_law_846 rfl rfl ?_
  refine ar_iconst (v := 1) C dL_law_847 (by decide) ?_
  refine ar_iadd C dL_law_848 ?_
  refine ar_sld (j := i + 1) C S (show nI i + 1 = nI (i + 1) from nI_add i 1) (by omega) dL_law_849 ?_
  refine ar_aload_nX (n := 3) C dL_law_850 rfl rfl ?_
  refine ar_iload_n (n := 0) C dL_law_851 rfl rfl ?_
  refine ar_iconst (v := 2) C dL_law_852 (by decide) ?_
  refine ar_iadd C dL_law_853 ?_
  refine ar_sld (j := i + 2) C S (show nI i + 2 = nI (i + 2) from nI_add i 2) (by omega) dL_law_854 ?_
  refine ar_aload_nX (n := 3) C dL_law_855 rfl rfl ?_
  refine ar_iload_n (n := 0) C dL_law_856 rfl rfl ?_
  refine ar_iconst (v := 3) C dL_law_857 (by decide) ?_
  refine ar_iadd C dL_law_858 ?_
  refine ar_sld (j := i + 3) C S (show nI i + 3 = nI (i + 3) from nI_add i 3) (by omega) dL_law_859 ?_
  refine cLi (ar := [.int (xs (i + 1)), .int (xs (i + 2)), .int (xs (i + 3))]) (st := []) C lkL_91 kd_0 hx (by decide) rfl (Nat.le_of_ble_eq_true rfl) rfl hroom dL_law_860 (fun M1 h1 => ?_)
  refine ar_aload_n (n := 1) C dL_law_863 rfl rfl ?_
  refine ar_aload_nX (n := 3) C dL_law_864 rfl rfl ?_
  refine ar_iload_n (n := 0) C dL_law_865 rfl rfl ?_
  refine ar_iconst (v := 1) C dL_law_866 (by decide) ?_
  refine ar_iadd C dL_law_867 ?_
  refine ar_sld (j := i + 1) C S (show nI i + 1 = nI (i + 1) from nI_add i 1) (by omega) dL_law_868 ?_
  refine ar_aload_nX (n := 3) C dL_law_869 rfl rfl ?_
  refine ar_iload_n (n := 0) C dL_law_870 rfl rfl ?_
  refine ar_iconst (v := 2) C dL_law_871 (by decide) ?_
  refine ar_iadd C dL_law_872 ?_
  refine ar_sld (j := i + 2) C S (show nI i + 2 = nI (i + 2) from nI_add i 2) (by omega) dL_law_873 ?_
  refine ar_aload_nX (n := 3) C dL_law_874 rfl rfl ?_
  refine ar_iload_n (n := 0) C dL_law_875 rfl rfl ?_
  refine ar_iconst (v := 3) C dL_law_876 (by decide) ?_
  refine ar_iadd C dL_law_877 ?_
  refine ar_sld (j := i + 3) C S (show nI i + 3 = nI (i + 3) from nI_add i 3) (by omega) dL_law_878 ?_
  refine cLi (ar := [.int (xs (i + 1)), .int (xs (i + 2)), .int (xs (i + 3))]) (st := [.int v]) C lkL_94 kd_96 (hm M1 h1) (by decide) rfl (Nat.le_of_ble_eq_true rfl) rfl hroom dL_law_879 (fun M2 h2 => ?_)
  exact ar_icmp_eq (tgt := 1508) C dL_law_882 (by decide) (fun _ => kk M2 h2) (fun c => absurd rfl c)
set_option maxHeartbeats 1000000 in
set_option maxRecDepth 100000 in
theorem lcs_19 {X : Ctx} {V : Vx} {meth : Method} {cl sl : Nat} {Q : State → Prop} (C : Cx X V (mL meth) 9) {L : Nat} {xs : Nat → Int32} (S : Sc X V L xs) (hroom : cl ≤ (cR X).cells ∧ sl ≤ (cR X).slots) {M : Mm} (hR : Rel M) {i : Nat} (hi : i + 8 ≤ L) (kk : ∀ M1, Rel M1 → AW X V 4 T0 M1 cl sl Q 1508 [(3, .int (nI i)), (2, .ref 96), (1, .ref 0), (0, .retAddr 0)] []) : AW X V 4 T0 M cl sl Q 887 [(3, .int (nI i)), (2, .ref 96), (1, .ref 0), (0, .retAddr 0)] [] := by
  obtain ⟨v, P1, hx, hm⟩ := op_stand hR (xs (i + 1)) (xs (i + 2)) (xs (i + 3)) (xs (i + 4)) (xs (i + 5))
  refine ar_aload_n (n := 2) C dL_law_887 rfl rfl ?_
  refine ar_aload_nX (n := 3) C dL_law_888 rfl rfl ?_
  refine ar_iload_n (n := 0) C dL_law_889 rfl rfl ?_
  refine ar_iconst (v := 1) C dL_law_890 (by decide) ?_
  refine ar_iadd C dL_law_891 ?_
  refine ar_sld (j := i + 1) C S (show nI i + 1 = nI (i + 1) from nI_add i 1) (by omega) dL_law_892 ?_
  refine ar_aload_nX (n := 3) C dL_law_893 rfl rfl ?_
  refine ar_iload_n (n := 0) C dL_law_894 rfl rfl ?_
  refine ar_iconst (v := 2) C dL_law_895 (by decide) ?_
  refine ar_iadd C dL_law_896 ?_
  refine ar_sld (j := i + 2) C S (show nI i + 2 = nI (i + 2) from nI_add i 2) (by omega) dL_law_897 ?_
  refine ar_aload_nX (n := 3) C dL_law_898 rfl rfl ?_
  refine ar_iload_n (n := 0) C dL_law_899 rfl rfl ?_
  refine ar_iconst (v := 3) C dL_law_900 (by decide) ?_
  refine ar_iadd C dL_law_901 ?_
  refine ar_sld (j := i + 3) C S (show nI i + 3 = nI (i + 3) from nI_add i 3) (by omega) dL_law_902 ?_
  refine ar_aload_nX (n := 3) C dL_law_903 rfl rfl ?_
  refine ar_iload_n (n := 0) C dL_law_904 rfl rfl ?_
  refine ar_iconst (v := 4) C dL_law_905 (by decide) ?_
  refine ar_iadd C dL_law_906 ?_
  refine ar_sld (j := i + 4) C S (show nI i + 4 = nI (i + 4) from nI_add i 4) (by omega) dL_law_907 ?_
  refine ar_aload_nX (n := 3) C dL_law_908 rfl rfl ?_
  refine ar_iload_n (n := 0) C dL_law_909 rfl rfl ?_
  refine ar_iconst (v := 5) C dL_law_910 (by decide) ?_
  refine ar_iadd C dL_law_911 ?_
  refine ar_sld (j := i + 5) C S (show nI i + 5 = nI (i + 5) from nI_add i 5) (by omega) dL_law_912 ?_
  refine cLi (ar := [.int (xs (i + 1)), .int (xs (i + 2)), .int (xs (i + 3)), .int (xs (i + 4)), .int (xs (i + 5))]) (st := []) C lkL_95 kd_0 hx (by decide) rfl (Nat.le_of_ble_eq_true rfl) rfl hroom dL_law_913 (fun M1 h1 => ?_)
  refine ar_aload_n (n := 1) C dL_law_916 rfl rfl ?_
  refine ar_aload_nX (n := 3) C dL_law_917 rfl rfl ?_
  refine ar_iload_n (n := 0) C dL_law_918 rfl rfl ?_
  refine ar_iconst (v := 1) C dL_law_919 (by decide) ?_
  refine ar_iadd C dL_law_920 ?_
  refine ar_sld (j := i + 1) C S (show nI i + 1 = nI (i + 1) from nI_add i 1) (by omega) dL_law_921 ?_
  refine ar_aload_nX (n := 3) C dL_law_922 rfl rfl ?_
  refine ar_iload_n (n := 0) C dL_law_923 rfl rfl ?_
  refine ar_iconst (v := 2) C dL_law_924 (by decide) ?_
  refine ar_iadd C dL_law_925 ?_
  refine ar_sld (j := i + 2) C S (show nI i + 2 = nI (i + 2) from nI_add i 2) (by omega) dL_law_926 ?_
  refine ar_aload_nX (n := 3) C dL_law_927 rfl rfl ?_
  refine ar_iload_n (n := 0) C dL_law_928 rfl rfl ?_
  refine ar_iconst (v := 3) C dL_law_929 (by decide) ?_
  refine ar_iadd C dL_law_930 ?_
  refine ar_sld (j := i + 3) C S (show nI i + 3 = nI (i + 3) from nI_add i 3) (by omega) dL_law_931 ?_
  refine ar_aload_nX (n := 3) C dL_law_932 rfl rfl ?_
  refine ar_iload_n (n := 0) C dL_law_933 rfl rfl ?_
  refine ar_iconst (v := 4) C dL_law_934 (by decide) ?_
  refine ar_iadd C dL_law_935 ?_
  refine ar_sld (j := i + 4) C S (show nI i + 4 = nI (i + 4) from nI_add i 4) (by omega) dL_law_936 ?_
  refine ar_aload_nX (n := 3) C dL_law_937 rfl rfl ?_
  refine ar_iload_n (n := 0) C dL_law_938 rfl rfl ?_
  refine ar_iconst (v := 5) C dL_law_939 (by decide) ?_
  refine ar_iadd C dL_law_940 ?_
  refine ar_sld (j := i + 5) C S (show nI i + 5 = nI (i + 5) from nI_add i 5) (by omega) dL_law_941 ?_
  refine cLi (ar := [.int (xs (i + 1)), .int (xs (i + 2)), .int (xs (i + 3)), .int (xs (i + 4)), .int (xs (i + 5))]) (st := [.int v]) C lkL_98 kd_96 (hm M1 h1) (by decide) rfl (Nat.le_of_ble_eq_true rfl) rfl hroom dL_law_942 (fun M2 h2 => ?_)
  exact ar_icmp_eq (tgt := 1508) C dL_law_945 (by decide) (fun _ => kk M2 h2) (fun c => absurd rfl c)
set_option maxHeartbeats 1000000 in
set_option maxRecDepth 100000 in
theorem lcs_20 {X : Ctx} {V : Vx} {meth : Method} {cl sl : Nat} {Q : State → Prop} (C : Cx X V (mL meth) 9) {L : Nat} {xs : Nat → Int32} (S : Sc X V L xs) (hroom : cl ≤ (cR X).cells ∧ sl ≤ (cR X).slots) {M : Mm} (hR : Rel M) {i : Nat} (hi : i + 8 ≤ L) (kk : ∀ M1, Rel M1 → AW X V 4 T0 M1 cl sl Q 1508 [(3, .int (nI i)), (2, .ref 96), (1, .ref 0), (0, .retAddr 0)] []) : AW X V 4 T0 M cl sl Q 950 [(3, .int (nI i)), (2, .ref 96), (1, .ref 0), (0, .retAddr 0)] [] := by
  obtain ⟨v, P1, hx, hm⟩ := op_far hR (xs (i + 1)) (xs (i + 2)) (xs (i + 3))
  refine ar_aload_n (n := 2) C dL_law_950 rfl rfl ?_
  refine ar_aload_nX (n := 3) C dL_law_951 rfl rfl ?_
  refine ar_iload_n (n := 0) C dL_law_952 rfl rfl ?_
  refine ar_iconst (v := 1) C dL_law_953 (by decide) ?_
  refine ar_iadd C dL_law_954 ?_
  refine ar_sld (j := i + 1) C S (show nI i + 1 = nI (i + 1) from nI_add i 1) (by omega) dL_law_955 ?_
  refine ar_aload_nX (n := 3) C dL_law_956 rfl rfl ?_
  refine ar_iload_n (n := 0) C dL_law_957 rfl rfl ?_
  refine ar_iconst (v := 2) C dL_law_958 (by decide) ?_
  refine ar_iadd C dL_law_959 ?_
  refine ar_sld (j := i + 2) C S (show nI i + 2 = nI (i + 2) from nI_add i 2) (by omega) dL_law_960 ?_
  refine ar_aload_nX (n := 3) C dL_law_961 rfl rfl ?_
  refine ar_iload_n (n := 0) C dL_law_962 rfl rfl ?_
  refine ar_iconst (v := 3) C dL_law_963 (by decide) ?_
  refine ar_iadd C dL_law_964 ?_
  refine ar_sld (j := i + 3) C S (show nI i + 3 = nI (i + 3) from nI_add i 3) (by omega) dL_law_965 ?_
  refine cLi (ar := [.int (xs (i + 1)), .int (xs (i + 2)), .int (xs (i + 3))]) (st := []) C lkL_99 kd_0 hx (by decide) rfl (Nat.le_of_ble_eq_true rfl) rfl hroom dL_law_966 (fun M1 h1 => ?_)
  refine ar_aload_n (n := 1) C dL_law_969 rfl rfl ?_
  refine ar_aload_nX (n := 3) C dL_law_970 rfl rfl ?_
  refine ar_iload_n (n := 0) C dL_law_971 rfl rfl ?_
  refine ar_iconst (v := 1) C dL_law_972 (by decide) ?_
  refine ar_iadd C dL_law_973 ?_
  refine ar_sld (j := i + 1) C S (show nI i + 1 = nI (i + 1) from nI_add i 1) (by omega) dL_law_974 ?_
  refine ar_aload_nX (n := 3) C dL_law_975 rfl rfl ?_
  refine ar_iload_n (n := 0) C dL_law_976 rfl rfl ?_
  refine ar_iconst (v := 2) C dL_law_977 (by decide) ?_
  refine ar_iadd C dL_law_978 ?_
  refine ar_sld (j := i + 2) C S (show nI i + 2 = nI (i + 2) from nI_add i 2) (by omega) dL_law_979 ?_
  refine ar_aload_nX (n := 3) C dL_law_980 rfl rfl ?_
  refine ar_iload_n (n := 0) C dL_law_981 rfl rfl ?_
  refine ar_iconst (v := 3) C dL_law_982 (by decide) ?_
  refine ar_iadd C dL_law_983 ?_
  refine ar_sld (j := i + 3) C S (show nI i + 3 = nI (i + 3) from nI_add i 3) (by omega) dL_law_984 ?_
  refine cLi (ar := [.int (xs (i + 1)), .int (xs (i + 2)), .int (xs (i + 3))]) (st := [.long v]) C lkL_103 kd_96 (hm M1 h1) (by decide) rfl (Nat.le_of_ble_eq_true rfl) rfl hroom dL_law_985 (fun M2 h2 => ?_)
  exact ar_lc_eq (tgt := 1508) C dL_law_988 dL_law_989 (by decide) (fun _ => kk M2 h2) (fun c => absurd rfl c)
set_option maxHeartbeats 1000000 in
set_option maxRecDepth 100000 in
theorem lcs_21 {X : Ctx} {V : Vx} {meth : Method} {cl sl : Nat} {Q : State → Prop} (C : Cx X V (mL meth) 9) {L : Nat} {xs : Nat → Int32} (S : Sc X V L xs) (hroom : cl ≤ (cR X).cells ∧ sl ≤ (cR X).slots) {M : Mm} (hR : Rel M) {i : Nat} (hi : i + 8 ≤ L) (kk : ∀ M1, Rel M1 → AW X V 4 T0 M1 cl sl Q 1508 [(3, .int (nI i)), (2, .ref 96), (1, .ref 0), (0, .retAddr 0)] []) : AW X V 4 T0 M cl sl Q 994 [(3, .int (nI i)), (2, .ref 96), (1, .ref 0), (0, .retAddr 0)] [] := by
  obtain ⟨v, P1, hx, hm⟩ := op_high hR (xs (i + 1)) (xs (i + 2)) (xs (i + 3))
  refine ar_aload_n (n := 2) C dL_law_994 rfl rfl ?_
  refine ar_aload_nX (n := 3) C dL_law_995 rfl rfl ?_
  refine ar_iload_n (n := 0) C dL_law_996 rfl rfl ?_
  refine ar_iconst (v := 1) C dL_law_997 (by decide) ?_
  refine ar_iadd C dL_law_998 ?_
  refine ar_sld (j := i + 1) C S (show nI i + 1 = nI (i + 1) from nI_add i 1) (by omega) dL_law_999 ?_
  refine ar_aload_nX (n := 3) C dL_law_1000 rfl rfl ?_
  refine ar_iload_n (n := 0) C dL_law_1001 rfl rfl ?_
  refine ar_iconst (v := 2) C dL_law_1002 (by decide) ?_
  refine ar_iadd C dL_law_1003 ?_
  refine ar_sld (j := i + 2) C S (show nI i + 2 = nI (i + 2) from nI_add i 2) (by omega) dL_law_1004 ?_
  refine ar_aload_nX (n := 3) C dL_law_1005 rfl rfl ?_
  refine ar_iload_n (n := 0) C dL_law_1006 rfl rfl ?_
  refine ar_iconst (v := 3) C dL_law_1007 (by decide) ?_
  refine ar_iadd C dL_law_1008 ?_
  refine ar_sld (j := i + 3) C S (show nI i + 3 = nI (i + 3) from nI_add i 3) (by omega) dL_law_1009 ?_
  refine cLi (ar := [.int (xs (i + 1)), .int (xs (i + 2)), .int (xs (i + 3))]) (st := []) C lkL_104 kd_0 hx (by decide) rfl (Nat.le_of_ble_eq_true rfl) rfl hroom dL_law_1010 (fun M1 h1 => ?_)
  refine ar_aload_n (n := 1) C dL_law_1013 rfl rfl ?_
  refine ar_aload_nX (n := 3) C dL_law_1014 rfl rfl ?_
  refine ar_iload_n (n := 0) C dL_law_1015 rfl rfl ?_
  refine ar_iconst (v := 1) C dL_law_1016 (by decide) ?_
  refine ar_iadd C dL_law_1017 ?_
  refine ar_sld (j := i + 1) C S (show nI i + 1 = nI (i + 1) from nI_add i 1) (by omega) dL_law_1018 ?_
  refine ar_aload_nX (n := 3) C dL_law_1019 rfl rfl ?_
  refine ar_iload_n (n := 0) C dL_law_1020 rfl rfl ?_
  refine ar_iconst (v := 2) C dL_law_1021 (by decide) ?_
  refine ar_iadd C dL_law_1022 ?_
  refine ar_sld (j := i + 2) C S (show nI i + 2 = nI (i + 2) from nI_add i 2) (by omega) dL_law_1023 ?_
  refine ar_aload_nX (n := 3) C dL_law_1024 rfl rfl ?_
  refine ar_iload_n (n := 0) C dL_law_1025 rfl rfl ?_
  refine ar_iconst (v := 3) C dL_law_1026 (by decide) ?_
  refine ar_iadd C dL_law_1027 ?_
  refine ar_sld (j := i + 3) C S (show nI i + 3 = nI (i + 3) from nI_add i 3) (by omega) dL_law_1028 ?_
  refine cLi (ar := [.int (xs (i + 1)), .int (xs (i + 2)), .int (xs (i + 3))]) (st := [.long v]) C lkL_107 kd_96 (hm M1 h1) (by decide) rfl (Nat.le_of_ble_eq_true rfl) rfl hroom dL_law_1029 (fun M2 h2 => ?_)
  exact ar_lc_eq (tgt := 1508) C dL_law_1032 dL_law_1033 (by decide) (fun _ => kk M2 h2) (fun c => absurd rfl c)
set_option maxHeartbeats 1000000 in
set_option maxRecDepth 100000 in
theorem lcs_22 {X : Ctx} {V : Vx} {meth : Method} {cl sl : Nat} {Q : State → Prop} (C : Cx X V (mL meth) 9) {L : Nat} {xs : Nat → Int32} (S : Sc X V L xs) (hroom : cl ≤ (cR X).cells ∧ sl ≤ (cR X).slots) {M : Mm} (hR : Rel M) {i : Nat} (hi : i + 8 ≤ L) (kk : ∀ M1, Rel M1 → AW X V 4 T0 M1 cl sl Q 1508 [(3, .int (nI i)), (2, .ref 96), (1, .ref 0), (0, .retAddr 0)] []) : AW X V 4 T0 M cl sl Q 1038 [(3, .int (nI i)), (2, .ref 96), (1, .ref 0), (0, .retAddr 0)] [] := by
  obtain ⟨v, P1, hx, hm⟩ := op_span hR (xs (i + 1)) (xs (i + 2)) (xs (i + 3)) (xs (i + 4))
  refine ar_aload_n (n := 2) C dL_law_1038 rfl rfl ?_
  refine ar_aload_nX (n := 3) C dL_law_1039 rfl rfl ?_
  refine ar_iload_n (n := 0) C dL_law_1040 rfl rfl ?_
  refine ar_iconst (v := 1) C dL_law_1041 (by decide) ?_
  refine ar_iadd C dL_law_1042 ?_
  refine ar_sld (j := i + 1) C S (show nI i + 1 = nI (i + 1) from nI_add i 1) (by omega) dL_law_1043 ?_
  refine ar_aload_nX (n := 3) C dL_law_1044 rfl rfl ?_
  refine ar_iload_n (n := 0) C dL_law_1045 rfl rfl ?_
  refine ar_iconst (v := 2) C dL_law_1046 (by decide) ?_
  refine ar_iadd C dL_law_1047 ?_
  refine ar_sld (j := i + 2) C S (show nI i + 2 = nI (i + 2) from nI_add i 2) (by omega) dL_law_1048 ?_
  refine ar_aload_nX (n := 3) C dL_law_1049 rfl rfl ?_
  refine ar_iload_n (n := 0) C dL_law_1050 rfl rfl ?_
  refine ar_iconst (v := 3) C dL_law_1051 (by decide) ?_
  refine ar_iadd C dL_law_1052 ?_
  refine ar_sld (j := i + 3) C S (show nI i + 3 = nI (i + 3) from nI_add i 3) (by omega) dL_law_1053 ?_
  refine ar_aload_nX (n := 3) C dL_law_1054 rfl rfl ?_
  refine ar_iload_n (n := 0) C dL_law_1055 rfl rfl ?_
  refine ar_iconst (v := 4) C dL_law_1056 (by decide) ?_
  refine ar_iadd C dL_law_1057 ?_
  refine ar_sld (j := i + 4) C S (show nI i + 4 = nI (i + 4) from nI_add i 4) (by omega) dL_law_1058 ?_
  refine cLi (ar := [.int (xs (i + 1)), .int (xs (i + 2)), .int (xs (i + 3)), .int (xs (i + 4))]) (st := []) C lkL_108 kd_0 hx (by decide) rfl (Nat.le_of_ble_eq_true rfl) rfl hroom dL_law_1059 (fun M1 h1 => ?_)
  refine ar_aload_n (n := 1) C dL_law_1062 rfl rfl ?_
  refine ar_aload_nX (n := 3) C dL_law_1063 rfl rfl ?_
  refine ar_iload_n (n := 0) C dL_law_1064 rfl rfl ?_
  refine ar_iconst (v := 1) C dL_law_1065 (by decide) ?_
  refine ar_iadd C dL_law_1066 ?_
  refine ar_sld (j := i + 1) C S (show nI i + 1 = nI (i + 1) from nI_add i 1) (by omega) dL_law_1067 ?_
  refine ar_aload_nX (n := 3) C dL_law_1068 rfl rfl ?_
  refine ar_iload_n (n := 0) C dL_law_1069 rfl rfl ?_
  refine ar_iconst (v := 2) C dL_law_1070 (by decide) ?_
  refine ar_iadd C dL_law_1071 ?_
  refine ar_sld (j := i + 2) C S (show nI i + 2 = nI (i + 2) from nI_add i 2) (by omega) dL_law_1072 ?_
  refine ar_aload_nX (n := 3) C dL_law_1073 rfl rfl ?_
  refine ar_iload_n (n := 0) C dL_law_1074 rfl rfl ?_
  refine ar_iconst (v := 3) C dL_law_1075 (by decide) ?_
  refine ar_iadd C dL_law_1076 ?_
  refine ar_sld (j := i + 3) C S (show nI i + 3 = nI (i + 3) from nI_add i 3) (by omega) dL_law_1077 ?_
  refine ar_aload_nX (n := 3) C dL_law_1078 rfl rfl ?_
  refine ar_iload_n (n := 0) C dL_law_1079 rfl rfl ?_
  refine ar_iconst (v := 4) C dL_law_1080 (by decide) ?_
  refine ar_iadd C dL_law_1081 ?_
  refine ar_sld (j := i + 4) C S (show nI i + 4 = nI (i + 4) from nI_add i 4) (by omega) dL_law_1082 ?_
  refine cLi (ar := [.int (xs (i + 1)), .int (xs (i + 2)), .int (xs (i + 3)), .int (xs (i + 4))]) (st := [.long v]) C lkL_112 kd_96 (hm M1 h1) (by decide) rfl (Nat.le_of_ble_eq_true rfl) rfl hroom dL_law_1083 (fun M2 h2 => ?_)
  exact ar_lc_eq (tgt := 1508) C dL_law_1086 dL_law_1087 (by decide) (fun _ => kk M2 h2) (fun c => absurd rfl c)
set_option maxHeartbeats 1000000 in
set_option maxRecDepth 100000 in
theorem lcs_23 {X : Ctx} {V : Vx} {meth : Method} {cl sl : Nat} {Q : State → Prop} (C : Cx X V (mL meth) 9) {L : Nat} {xs : Nat → Int32} (S : Sc X V L xs) (hroom : cl ≤ (cR X).cells ∧ sl ≤ (cR X).slots) {M : Mm} (hR : Rel M) {i : Nat} (hi : i + 8 ≤ L) (kk : ∀ M1, Rel M1 → AW X V 4 T0 M1 cl sl Q 1508 [(3, .int (nI i)), (2, .ref 96), (1, .ref 0), (0, .retAddr 0)] []) : AW X V 4 T0 M cl sl Q 1092 [(3, .int (nI i)), (2, .ref 96), (1, .ref 0), (0, .retAddr 0)] [] := by
  obtain ⟨v, P1, hx, hm⟩ := op_studio hR (xs (i + 1)) (xs (i + 2)) (xs (i + 3)) (xs (i + 4)) (xs (i + 5)) (xs (i + 6)) (xs (i + 7))
  refine ar_aload_n (n := 2) C dL_law_1092 rfl rfl ?_
  refine ar_aload_nX (n := 3) C dL_law_1093 rfl rfl ?_
  refine ar_iload_n (n := 0) C dL_law_1094 rfl rfl ?_
  refine ar_iconst (v := 1) C dL_law_1095 (by decide) ?_
  refine ar_iadd C dL_law_1096 ?_
  refine ar_sld (j := i + 1) C S (show nI i + 1 = nI (i + 1) from nI_add i 1) (by omega) dL_law_1097 ?_
  refine ar_aload_nX (n := 3) C dL_law_1098 rfl rfl ?_
  refine ar_iload_n (n := 0) C dL_law_1099 rfl rfl ?_
  refine ar_iconst (v := 2) C dL_law_1100 (by decide) ?_
  refine ar_iadd C dL_law_1101 ?_
  refine ar_sld (j := i + 2) C S (show nI i + 2 = nI (i + 2) from nI_add i 2) (by omega) dL_law_1102 ?_
  refine ar_aload_nX (n := 3) C dL_law_1103 rfl rfl ?_
  refine ar_iload_n (n := 0) C dL_law_1104 rfl rfl ?_
  refine ar_iconst (v := 3) C dL_law_1105 (by decide) ?_
  refine ar_iadd C dL_law_1106 ?_
  refine ar_sld (j := i + 3) C S (show nI i + 3 = nI (i + 3) from nI_add i 3) (by omega) dL_law_1107 ?_
  refine ar_aload_nX (n := 3) C dL_law_1108 rfl rfl ?_
  refine ar_iload_n (n := 0) C dL_law_1109 rfl rfl ?_
  refine ar_iconst (v := 4) C dL_law_1110 (by decide) ?_
  refine ar_iadd C dL_law_1111 ?_
  refine ar_sld (j := i + 4) C S (show nI i + 4 = nI (i + 4) from nI_add i 4) (by omega) dL_law_1112 ?_
  refine ar_aload_nX (n := 3) C dL_law_1113 rfl rfl ?_
  refine ar_iload_n (n := 0) C dL_law_1114 rfl rfl ?_
  refine ar_iconst (v := 5) C dL_law_1115 (by decide) ?_
  refine ar_iadd C dL_law_1116 ?_
  refine ar_sld (j := i + 5) C S (show nI i + 5 = nI (i + 5) from nI_add i 5) (by omega) dL_law_1117 ?_
  refine ar_aload_nX (n := 3) C dL_law_1118 rfl rfl ?_
  refine ar_iload_n (n := 0) C dL_law_1119 rfl rfl ?_
  refine ar_bipush (v := 6) C dL_law_1120 (by decide) ?_
  refine ar_iadd C dL_law_1122 ?_
  refine ar_sld (j := i + 6) C S (show nI i + 6 = nI (i + 6) from nI_add i 6) (by omega) dL_law_1123 ?_
  refine ar_aload_nX (n := 3) C dL_law_1124 rfl rfl ?_
  refine ar_iload_n (n := 0) C dL_law_1125 rfl rfl ?_
  refine ar_bipush (v := 7) C dL_law_1126 (by decide) ?_
  refine ar_iadd C dL_law_1128 ?_
  refine ar_sld (j := i + 7) C S (show nI i + 7 = nI (i + 7) from nI_add i 7) (by omega) dL_law_1129 ?_
  refine cLi (ar := [.int (xs (i + 1)), .int (xs (i + 2)), .int (xs (i + 3)), .int (xs (i + 4)), .int (xs (i + 5)), .int (xs (i + 6)), .int (xs (i + 7))]) (st := []) C lkL_113 kd_0 hx (by decide) rfl (Nat.le_of_ble_eq_true rfl) rfl hroom dL_law_1130 (fun M1 h1 => ?_)
  refine ar_aload_n (n := 1) C dL_law_1133 rfl rfl ?_
  refine ar_aload_nX (n := 3) C dL_law_1134 rfl rfl ?_
  refine ar_iload_n (n := 0) C dL_law_1135 rfl rfl ?_
  refine ar_iconst (v := 1) C dL_law_1136 (by decide) ?_
  refine ar_iadd C dL_law_1137 ?_
  refine ar_sld (j := i + 1) C S (show nI i + 1 = nI (i + 1) from nI_add i 1) (by omega) dL_law_1138 ?_
  refine ar_aload_nX (n := 3) C dL_law_1139 rfl rfl ?_
  refine ar_iload_n (n := 0) C dL_law_1140 rfl rfl ?_
  refine ar_iconst (v := 2) C dL_law_1141 (by decide) ?_
  refine ar_iadd C dL_law_1142 ?_
  refine ar_sld (j := i + 2) C S (show nI i + 2 = nI (i + 2) from nI_add i 2) (by omega) dL_law_1143 ?_
  refine ar_aload_nX (n := 3) C dL_law_1144 rfl rfl ?_
  refine ar_iload_n (n := 0) C dL_law_1145 rfl rfl ?_
  refine ar_iconst (v := 3) C dL_law_1146 (by decide) ?_
  refine ar_iadd C dL_law_1147 ?_
  refine ar_sld (j := i + 3) C S (show nI i + 3 = nI (i + 3) from nI_add i 3) (by omega) dL_law_1148 ?_
  refine ar_aload_nX (n := 3) C dL_law_1149 rfl rfl ?_
  refine ar_iload_n (n := 0) C dL_law_1150 rfl rfl ?_
  refine ar_iconst (v := 4) C dL_law_1151 (by decide) ?_
  refine ar_iadd C dL_law_1152 ?_
  refine ar_sld (j := i + 4) C S (show nI i + 4 = nI (i + 4) from nI_add i 4) (by omega) dL_law_1153 ?_
  refine ar_aload_nX (n := 3) C dL_law_1154 rfl rfl ?_
  refine ar_iload_n (n := 0) C dL_law_1155 rfl rfl ?_
  refine ar_iconst (v := 5) C dL_law_1156 (by decide) ?_
  refine ar_iadd C dL_law_1157 ?_
  refine ar_sld (j := i + 5) C S (show nI i + 5 = nI (i + 5) from nI_add i 5) (by omega) dL_law_1158 ?_
  refine ar_aload_nX (n := 3) C dL_law_1159 rfl rfl ?_
  refine ar_iload_n (n := 0) C dL_law_1160 rfl rfl ?_
  refine ar_bipush (v := 6) C dL_law_1161 (by decide) ?_
  refine ar_iadd C dL_law_1163 ?_
  refine ar_sld (j := i + 6) C S (show nI i + 6 = nI (i + 6) from nI_add i 6) (by omega) dL_law_1164 ?_
  refine ar_aload_nX (n := 3) C dL_law_1165 rfl rfl ?_
  refine ar_iload_n (n := 0) C dL_law_1166 rfl rfl ?_
  refine ar_bipush (v := 7) C dL_law_1167 (by decide) ?_
  refine ar_iadd C dL_law_1169 ?_
  refine ar_sld (j := i + 7) C S (show nI i + 7 = nI (i + 7) from nI_add i 7) (by omega) dL_law_1170 ?_
  refine cLi (ar := [.int (xs (i + 1)), .int (xs (i + 2)), .int (xs (i + 3)), .int (xs (i + 4)), .int (xs (i + 5)), .int (xs (i + 6)), .int (xs (i + 7))]) (st := [.int v]) C lkL_117 kd_96 (hm M1 h1) (by decide) rfl (Nat.le_of_ble_eq_true rfl) rfl hroom dL_law_1171 (fun M2 h2 => ?_)
  exact ar_icmp_eq (tgt := 1508) C dL_law_1174 (by decide) (fun _ => kk M2 h2) (fun c => absurd rfl c)
set_option maxHeartbeats 1000000 in
set_option maxRecDepth 100000 in
theorem lcs_24 {X : Ctx} {V : Vx} {meth : Method} {cl sl : Nat} {Q : State → Prop} (C : Cx X V (mL meth) 9) {L : Nat} {xs : Nat → Int32} (S : Sc X V L xs) (hroom : cl ≤ (cR X).cells ∧ sl ≤ (cR X).slots) {M : Mm} (hR : Rel M) {i : Nat} (hi : i + 8 ≤ L) (kk : ∀ M1, Rel M1 → AW X V 4 T0 M1 cl sl Q 1508 [(3, .int (nI i)), (2, .ref 96), (1, .ref 0), (0, .retAddr 0)] []) : AW X V 4 T0 M cl sl Q 1179 [(3, .int (nI i)), (2, .ref 96), (1, .ref 0), (0, .retAddr 0)] [] := by
  obtain ⟨v, P1, hx, hm⟩ := op_studios hR (xs (i + 1)) (xs (i + 2)) (xs (i + 3)) (xs (i + 4)) (xs (i + 5)) (xs (i + 6))
  refine ar_aload_n (n := 2) C dL_law_1179 rfl rfl ?_
  refine ar_aload_nX (n := 3) C dL_law_1180 rfl rfl ?_
  refine ar_iload_n (n := 0) C dL_law_1181 rfl rfl ?_
  refine ar_iconst (v := 1) C dL_law_1182 (by decide) ?_
  refine ar_iadd C dL_law_1183 ?_
  refine ar_sld (j := i + 1) C S (show nI i + 1 = nI (i + 1) from nI_add i 1) (by omega) dL_law_1184 ?_
  refine ar_aload_nX (n := 3) C dL_law_1185 rfl rfl ?_
  refine ar_iload_n (n := 0) C dL_law_1186 rfl rfl ?_
  refine ar_iconst (v := 2) C dL_law_1187 (by decide) ?_
  refine ar_iadd C dL_law_1188 ?_
  refine ar_sld (j := i + 2) C S (show nI i + 2 = nI (i + 2) from nI_add i 2) (by omega) dL_law_1189 ?_
  refine ar_aload_nX (n := 3) C dL_law_1190 rfl rfl ?_
  refine ar_iload_n (n := 0) C dL_law_1191 rfl rfl ?_
  refine ar_iconst (v := 3) C dL_law_1192 (by decide) ?_
  refine ar_iadd C dL_law_1193 ?_
  refine ar_sld (j := i + 3) C S (show nI i + 3 = nI (i + 3) from nI_add i 3) (by omega) dL_law_1194 ?_
  refine ar_aload_nX (n := 3) C dL_law_1195 rfl rfl ?_
  refine ar_iload_n (n := 0) C dL_law_1196 rfl rfl ?_
  refine ar_iconst (v := 4) C dL_law_1197 (by decide) ?_
  refine ar_iadd C dL_law_1198 ?_
  refine ar_sld (j := i + 4) C S (show nI i + 4 = nI (i + 4) from nI_add i 4) (by omega) dL_law_1199 ?_
  refine ar_aload_nX (n := 3) C dL_law_1200 rfl rfl ?_
  refine ar_iload_n (n := 0) C dL_law_1201 rfl rfl ?_
  refine ar_iconst (v := 5) C dL_law_1202 (by decide) ?_
  refine ar_iadd C dL_law_1203 ?_
  refine ar_sld (j := i + 5) C S (show nI i + 5 = nI (i + 5) from nI_add i 5) (by omega) dL_law_1204 ?_
  refine ar_aload_nX (n := 3) C dL_law_1205 rfl rfl ?_
  refine ar_iload_n (n := 0) C dL_law_1206 rfl rfl ?_
  refine ar_bipush (v := 6) C dL_law_1207 (by decide) ?_
  refine ar_iadd C dL_law_1209 ?_
  refine ar_sld (j := i + 6) C S (show nI i + 6 = nI (i + 6) from nI_add i 6) (by omega) dL_law_1210 ?_
  refine cLi (ar := [.int (xs (i + 1)), .int (xs (i + 2)), .int (xs (i + 3)), .int (xs (i + 4)), .int (xs (i + 5)), .int (xs (i + 6))]) (st := []) C lkL_118 kd_0 hx (by decide) rfl (Nat.le_of_ble_eq_true rfl) rfl hroom dL_law_1211 (fun M1 h1 => ?_)
  refine ar_aload_n (n := 1) C dL_law_1214 rfl rfl ?_
  refine ar_aload_nX (n := 3) C dL_law_1215 rfl rfl ?_
  refine ar_iload_n (n := 0) C dL_law_1216 rfl rfl ?_
  refine ar_iconst (v := 1) C dL_law_1217 (by decide) ?_
  refine ar_iadd C dL_law_1218 ?_
  refine ar_sld (j := i + 1) C S (show nI i + 1 = nI (i + 1) from nI_add i 1) (by omega) dL_law_1219 ?_
  refine ar_aload_nX (n := 3) C dL_law_1220 rfl rfl ?_
  refine ar_iload_n (n := 0) C dL_law_1221 rfl rfl ?_
  refine ar_iconst (v := 2) C dL_law_1222 (by decide) ?_
  refine ar_iadd C dL_law_1223 ?_
  refine ar_sld (j := i + 2) C S (show nI i + 2 = nI (i + 2) from nI_add i 2) (by omega) dL_law_1224 ?_
  refine ar_aload_nX (n := 3) C dL_law_1225 rfl rfl ?_
  refine ar_iload_n (n := 0) C dL_law_1226 rfl rfl ?_
  refine ar_iconst (v := 3) C dL_law_1227 (by decide) ?_
  refine ar_iadd C dL_law_1228 ?_
  refine ar_sld (j := i + 3) C S (show nI i + 3 = nI (i + 3) from nI_add i 3) (by omega) dL_law_1229 ?_
  refine ar_aload_nX (n := 3) C dL_law_1230 rfl rfl ?_
  refine ar_iload_n (n := 0) C dL_law_1231 rfl rfl ?_
  refine ar_iconst (v := 4) C dL_law_1232 (by decide) ?_
  refine ar_iadd C dL_law_1233 ?_
  refine ar_sld (j := i + 4) C S (show nI i + 4 = nI (i + 4) from nI_add i 4) (by omega) dL_law_1234 ?_
  refine ar_aload_nX (n := 3) C dL_law_1235 rfl rfl ?_
  refine ar_iload_n (n := 0) C dL_law_1236 rfl rfl ?_
  refine ar_iconst (v := 5) C dL_law_1237 (by decide) ?_
  refine ar_iadd C dL_law_1238 ?_
  refine ar_sld (j := i + 5) C S (show nI i + 5 = nI (i + 5) from nI_add i 5) (by omega) dL_law_1239 ?_
  refine ar_aload_nX (n := 3) C dL_law_1240 rfl rfl ?_
  refine ar_iload_n (n := 0) C dL_law_1241 rfl rfl ?_
  refine ar_bipush (v := 6) C dL_law_1242 (by decide) ?_
  refine ar_iadd C dL_law_1244 ?_
  refine ar_sld (j := i + 6) C S (show nI i + 6 = nI (i + 6) from nI_add i 6) (by omega) dL_law_1245 ?_
  refine cLi (ar := [.int (xs (i + 1)), .int (xs (i + 2)), .int (xs (i + 3)), .int (xs (i + 4)), .int (xs (i + 5)), .int (xs (i + 6))]) (st := [.int v]) C lkL_122 kd_96 (hm M1 h1) (by decide) rfl (Nat.le_of_ble_eq_true rfl) rfl hroom dL_law_1246 (fun M2 h2 => ?_)
  exact ar_icmp_eq (tgt := 1508) C dL_law_1249 (by decide) (fun _ => kk M2 h2) (fun c => absurd rfl c)
set_option maxHeartbeats 1000000 in
set_option maxRecDepth 100000 in
theorem lcs_25 {X : Ctx} {V : Vx} {meth : Method} {cl sl : Nat} {Q : State → Prop} (C : Cx X V (mL meth) 9) {L : Nat} {xs : Nat → Int32} (S : Sc X V L xs) (hroom : cl ≤ (cR X).cells ∧ sl ≤ (cR X).slots) {M : Mm} (hR : Rel M) {i : Nat} (hi : i + 8 ≤ L) (kk : ∀ M1, Rel M1 → AW X V 4 T0 M1 cl sl Q 1508 [(3, .int (nI i)), (2, .ref 96), (1, .ref 0), (0, .retAddr 0)] []) : AW X V 4 T0 M cl sl Q 1254 [(3, .int (nI i)), (2, .ref 96), (1, .ref 0), (0, .retAddr 0)] [] := by
  obtain ⟨v, P1, hx, hm⟩ := op_spot hR (xs (i + 1)) (xs (i + 2)) (xs (i + 3)) (xs (i + 4))
  refine ar_aload_n (n := 2) C dL_law_1254 rfl rfl ?_
  refine ar_aload_nX (n := 3) C dL_law_1255 rfl rfl ?_
  refine ar_iload_n (n := 0) C dL_law_1256 rfl rfl ?_
  refine ar_iconst (v := 1) C dL_law_1257 (by decide) ?_
  refine ar_iadd C dL_law_1258 ?_
  refine ar_sld (j := i + 1) C S (show nI i + 1 = nI (i + 1) from nI_add i 1) (by omega) dL_law_1259 ?_
  refine ar_aload_nX (n := 3) C dL_law_1260 rfl rfl ?_
  refine ar_iload_n (n := 0) C dL_law_1261 rfl rfl ?_
  refine ar_iconst (v := 2) C dL_law_1262 (by decide) ?_
  refine ar_iadd C dL_law_1263 ?_
  refine ar_sld (j := i + 2) C S (show nI i + 2 = nI (i + 2) from nI_add i 2) (by omega) dL_law_1264 ?_
  refine ar_aload_nX (n := 3) C dL_law_1265 rfl rfl ?_
  refine ar_iload_n (n := 0) C dL_law_1266 rfl rfl ?_
  refine ar_iconst (v := 3) C dL_law_1267 (by decide) ?_
  refine ar_iadd C dL_law_1268 ?_
  refine ar_sld (j := i + 3) C S (show nI i + 3 = nI (i + 3) from nI_add i 3) (by omega) dL_law_1269 ?_
  refine ar_aload_nX (n := 3) C dL_law_1270 rfl rfl ?_
  refine ar_iload_n (n := 0) C dL_law_1271 rfl rfl ?_
  refine ar_iconst (v := 4) C dL_law_1272 (by decide) ?_
  refine ar_iadd C dL_law_1273 ?_
  refine ar_sld (j := i + 4) C S (show nI i + 4 = nI (i + 4) from nI_add i 4) (by omega) dL_law_1274 ?_
  refine cLi (ar := [.int (xs (i + 1)), .int (xs (i + 2)), .int (xs (i + 3)), .int (xs (i + 4))]) (st := []) C lkL_123 kd_0 hx (by decide) rfl (Nat.le_of_ble_eq_true rfl) rfl hroom dL_law_1275 (fun M1 h1 => ?_)
  refine ar_aload_n (n := 1) C dL_law_1278 rfl rfl ?_
  refine ar_aload_nX (n := 3) C dL_law_1279 rfl rfl ?_
  refine ar_iload_n (n := 0) C dL_law_1280 rfl rfl ?_
  refine ar_iconst (v := 1) C dL_law_1281 (by decide) ?_
  refine ar_iadd C dL_law_1282 ?_
  refine ar_sld (j := i + 1) C S (show nI i + 1 = nI (i + 1) from nI_add i 1) (by omega) dL_law_1283 ?_
  refine ar_aload_nX (n := 3) C dL_law_1284 rfl rfl ?_
  refine ar_iload_n (n := 0) C dL_law_1285 rfl rfl ?_
  refine ar_iconst (v := 2) C dL_law_1286 (by decide) ?_
  refine ar_iadd C dL_law_1287 ?_
  refine ar_sld (j := i + 2) C S (show nI i + 2 = nI (i + 2) from nI_add i 2) (by omega) dL_law_1288 ?_
  refine ar_aload_nX (n := 3) C dL_law_1289 rfl rfl ?_
  refine ar_iload_n (n := 0) C dL_law_1290 rfl rfl ?_
  refine ar_iconst (v := 3) C dL_law_1291 (by decide) ?_
  refine ar_iadd C dL_law_1292 ?_
  refine ar_sld (j := i + 3) C S (show nI i + 3 = nI (i + 3) from nI_add i 3) (by omega) dL_law_1293 ?_
  refine ar_aload_nX (n := 3) C dL_law_1294 rfl rfl ?_
  refine ar_iload_n (n := 0) C dL_law_1295 rfl rfl ?_
  refine ar_iconst (v := 4) C dL_law_1296 (by decide) ?_
  refine ar_iadd C dL_law_1297 ?_
  refine ar_sld (j := i + 4) C S (show nI i + 4 = nI (i + 4) from nI_add i 4) (by omega) dL_law_1298 ?_
  refine cLi (ar := [.int (xs (i + 1)), .int (xs (i + 2)), .int (xs (i + 3)), .int (xs (i + 4))]) (st := [.int v]) C lkL_126 kd_96 (hm M1 h1) (by decide) rfl (Nat.le_of_ble_eq_true rfl) rfl hroom dL_law_1299 (fun M2 h2 => ?_)
  exact ar_icmp_eq (tgt := 1508) C dL_law_1302 (by decide) (fun _ => kk M2 h2) (fun c => absurd rfl c)
set_option maxHeartbeats 1000000 in
set_option maxRecDepth 100000 in
theorem lcs_26 {X : Ctx} {V : Vx} {meth : Method} {cl sl : Nat} {Q : State → Prop} (C : Cx X V (mL meth) 9) {L : Nat} {xs : Nat → Int32} (S : Sc X V L xs) (hroom : cl ≤ (cR X).cells ∧ sl ≤ (cR X).slots) {M : Mm} (hR : Rel M) {i : Nat} (hi : i + 8 ≤ L) (kk : ∀ M1, Rel M1 → AW X V 4 T0 M1 cl sl Q 1508 [(3, .int (nI i)), (2, .ref 96), (1, .ref 0), (0, .retAddr 0)] []) : AW X V 4 T0 M cl sl Q 1307 [(3, .int (nI i)), (2, .ref 96), (1, .ref 0), (0, .retAddr 0)] [] := by
  obtain ⟨v, P1, hx, hm⟩ := op_days hR (xs (i + 1)) (xs (i + 2)) (xs (i + 3)) (xs (i + 4))
  refine ar_aload_n (n := 2) C dL_law_1307 rfl rfl ?_
  refine ar_aload_nX (n := 3) C dL_law_1308 rfl rfl ?_
  refine ar_iload_n (n := 0) C dL_law_1309 rfl rfl ?_
  refine ar_iconst (v := 1) C dL_law_1310 (by decide) ?_
  refine ar_iadd C dL_law_1311 ?_
  refine ar_sld (j := i + 1) C S (show nI i + 1 = nI (i + 1) from nI_add i 1) (by omega) dL_law_1312 ?_
  refine ar_aload_nX (n := 3) C dL_law_1313 rfl rfl ?_
  refine ar_iload_n (n := 0) C dL_law_1314 rfl rfl ?_
  refine ar_iconst (v := 2) C dL_law_1315 (by decide) ?_
  refine ar_iadd C dL_law_1316 ?_
  refine ar_sld (j := i + 2) C S (show nI i + 2 = nI (i + 2) from nI_add i 2) (by omega) dL_law_1317 ?_
  refine ar_aload_nX (n := 3) C dL_law_1318 rfl rfl ?_
  refine ar_iload_n (n := 0) C dL_law_1319 rfl rfl ?_
  refine ar_iconst (v := 3) C dL_law_1320 (by decide) ?_
  refine ar_iadd C dL_law_1321 ?_
  refine ar_sld (j := i + 3) C S (show nI i + 3 = nI (i + 3) from nI_add i 3) (by omega) dL_law_1322 ?_
  refine ar_aload_nX (n := 3) C dL_law_1323 rfl rfl ?_
  refine ar_iload_n (n := 0) C dL_law_1324 rfl rfl ?_
  refine ar_iconst (v := 4) C dL_law_1325 (by decide) ?_
  refine ar_iadd C dL_law_1326 ?_
  refine ar_sld (j := i + 4) C S (show nI i + 4 = nI (i + 4) from nI_add i 4) (by omega) dL_law_1327 ?_
  refine cLi (ar := [.int (xs (i + 1)), .int (xs (i + 2)), .int (xs (i + 3)), .int (xs (i + 4))]) (st := []) C lkL_127 kd_0 hx (by decide) rfl (Nat.le_of_ble_eq_true rfl) rfl hroom dL_law_1328 (fun M1 h1 => ?_)
  refine ar_aload_n (n := 1) C dL_law_1331 rfl rfl ?_
  refine ar_aload_nX (n := 3) C dL_law_1332 rfl rfl ?_
  refine ar_iload_n (n := 0) C dL_law_1333 rfl rfl ?_
  refine ar_iconst (v := 1) C dL_law_1334 (by decide) ?_
  refine ar_iadd C dL_law_1335 ?_
  refine ar_sld (j := i + 1) C S (show nI i + 1 = nI (i + 1) from nI_add i 1) (by omega) dL_law_1336 ?_
  refine ar_aload_nX (n := 3) C dL_law_1337 rfl rfl ?_
  refine ar_iload_n (n := 0) C dL_law_1338 rfl rfl ?_
  refine ar_iconst (v := 2) C dL_law_1339 (by decide) ?_
  refine ar_iadd C dL_law_1340 ?_
  refine ar_sld (j := i + 2) C S (show nI i + 2 = nI (i + 2) from nI_add i 2) (by omega) dL_law_1341 ?_
  refine ar_aload_nX (n := 3) C dL_law_1342 rfl rfl ?_
  refine ar_iload_n (n := 0) C dL_law_1343 rfl rfl ?_
  refine ar_iconst (v := 3) C dL_law_1344 (by decide) ?_
  refine ar_iadd C dL_law_1345 ?_
  refine ar_sld (j := i + 3) C S (show nI i + 3 = nI (i + 3) from nI_add i 3) (by omega) dL_law_1346 ?_
  refine ar_aload_nX (n := 3) C dL_law_1347 rfl rfl ?_
  refine ar_iload_n (n := 0) C dL_law_1348 rfl rfl ?_
  refine ar_iconst (v := 4) C dL_law_1349 (by decide) ?_
  refine ar_iadd C dL_law_1350 ?_
  refine ar_sld (j := i + 4) C S (show nI i + 4 = nI (i + 4) from nI_add i 4) (by omega) dL_law_1351 ?_
  refine cLi (ar := [.int (xs (i + 1)), .int (xs (i + 2)), .int (xs (i + 3)), .int (xs (i + 4))]) (st := [.int v]) C lkL_130 kd_96 (hm M1 h1) (by decide) rfl (Nat.le_of_ble_eq_true rfl) rfl hroom dL_law_1352 (fun M2 h2 => ?_)
  exact ar_icmp_eq (tgt := 1508) C dL_law_1355 (by decide) (fun _ => kk M2 h2) (fun c => absurd rfl c)
set_option maxHeartbeats 1000000 in
set_option maxRecDepth 100000 in
theorem lcs_27 {X : Ctx} {V : Vx} {meth : Method} {cl sl : Nat} {Q : State → Prop} (C : Cx X V (mL meth) 9) {L : Nat} {xs : Nat → Int32} (S : Sc X V L xs) (hroom : cl ≤ (cR X).cells ∧ sl ≤ (cR X).slots) {M : Mm} (hR : Rel M) {i : Nat} (hi : i + 8 ≤ L) (kk : ∀ M1, Rel M1 → AW X V 4 T0 M1 cl sl Q 1508 [(3, .int (nI i)), (2, .ref 96), (1, .ref 0), (0, .retAddr 0)] []) : AW X V 4 T0 M cl sl Q 1360 [(3, .int (nI i)), (2, .ref 96), (1, .ref 0), (0, .retAddr 0)] [] := by
  obtain ⟨v, P1, hx, hm⟩ := op_kind hR (xs (i + 1))
  refine ar_aload_n (n := 2) C dL_law_1360 rfl rfl ?_
  refine ar_aload_nX (n := 3) C dL_law_1361 rfl rfl ?_
  refine ar_iload_n (n := 0) C dL_law_1362 rfl rfl ?_
  refine ar_iconst (v := 1) C dL_law_1363 (by decide) ?_
  refine ar_iadd C dL_law_1364 ?_
  refine ar_sld (j := i + 1) C S (show nI i + 1 = nI (i + 1) from nI_add i 1) (by omega) dL_law_1365 ?_
  refine cLi (ar := [.int (xs (i + 1))]) (st := []) C lkL_131 kd_0 hx (by decide) rfl (Nat.le_of_ble_eq_true rfl) rfl hroom dL_law_1366 (fun M1 h1 => ?_)
  refine ar_aload_n (n := 1) C dL_law_1369 rfl rfl ?_
  refine ar_aload_nX (n := 3) C dL_law_1370 rfl rfl ?_
  refine ar_iload_n (n := 0) C dL_law_1371 rfl rfl ?_
  refine ar_iconst (v := 1) C dL_law_1372 (by decide) ?_
  refine ar_iadd C dL_law_1373 ?_
  refine ar_sld (j := i + 1) C S (show nI i + 1 = nI (i + 1) from nI_add i 1) (by omega) dL_law_1374 ?_
  refine cLi (ar := [.int (xs (i + 1))]) (st := [.int v]) C lkL_134 kd_96 (hm M1 h1) (by decide) rfl (Nat.le_of_ble_eq_true rfl) rfl hroom dL_law_1375 (fun M2 h2 => ?_)
  exact ar_icmp_eq (tgt := 1508) C dL_law_1378 (by decide) (fun _ => kk M2 h2) (fun c => absurd rfl c)
set_option maxHeartbeats 1000000 in
set_option maxRecDepth 100000 in
theorem lcs_28 {X : Ctx} {V : Vx} {meth : Method} {cl sl : Nat} {Q : State → Prop} (C : Cx X V (mL meth) 9) {L : Nat} {xs : Nat → Int32} (S : Sc X V L xs) (hroom : cl ≤ (cR X).cells ∧ sl ≤ (cR X).slots) {M : Mm} (hR : Rel M) {i : Nat} (hi : i + 8 ≤ L) (kk : ∀ M1, Rel M1 → AW X V 4 T0 M1 cl sl Q 1508 [(3, .int (nI i)), (2, .ref 96), (1, .ref 0), (0, .retAddr 0)] []) : AW X V 4 T0 M cl sl Q 1383 [(3, .int (nI i)), (2, .ref 96), (1, .ref 0), (0, .retAddr 0)] [] := by
  obtain ⟨v, P1, hx, hm⟩ := op_as hR (xs (i + 1)) (xs (i + 2))
  refine ar_aload_n (n := 2) C dL_law_1383 rfl rfl ?_
  refine ar_aload_nX (n := 3) C dL_law_1384 rfl rfl ?_
  refine ar_iload_n (n := 0) C dL_law_1385 rfl rfl ?_
  refine ar_iconst (v := 1) C dL_law_1386 (by decide) ?_
  refine ar_iadd C dL_law_1387 ?_
  refine ar_sld (j := i + 1) C S (show nI i + 1 = nI (i + 1) from nI_add i 1) (by omega) dL_law_1388 ?_
  refine ar_aload_nX (n := 3) C dL_law_1389 rfl rfl ?_
  refine ar_iload_n (n := 0) C dL_law_1390 rfl rfl ?_
  refine ar_iconst (v := 2) C dL_law_1391 (by decide) ?_
  refine ar_iadd C dL_law_1392 ?_
  refine ar_sld (j := i + 2) C S (show nI i + 2 = nI (i + 2) from nI_add i 2) (by omega) dL_law_1393 ?_
  refine cLi (ar := [.int (xs (i + 1)), .int (xs (i + 2))]) (st := []) C lkL_135 kd_0 hx (by decide) rfl (Nat.le_of_ble_eq_true rfl) rfl hroom dL_law_1394 (fun M1 h1 => ?_)
  refine ar_aload_n (n := 1) C dL_law_1397 rfl rfl ?_
  refine ar_aload_nX (n := 3) C dL_law_1398 rfl rfl ?_
  refine ar_iload_n (n := 0) C dL_law_1399 rfl rfl ?_
  refine ar_iconst (v := 1) C dL_law_1400 (by decide) ?_
  refine ar_iadd C dL_law_1401 ?_
  refine ar_sld (j := i + 1) C S (show nI i + 1 = nI (i + 1) from nI_add i 1) (by omega) dL_law_1402 ?_
  refine ar_aload_nX (n := 3) C dL_law_1403 rfl rfl ?_
  refine ar_iload_n (n := 0) C dL_law_1404 rfl rfl ?_
  refine ar_iconst (v := 2) C dL_law_1405 (by decide) ?_
  refine ar_iadd C dL_law_1406 ?_
  refine ar_sld (j := i + 2) C S (show nI i + 2 = nI (i + 2) from nI_add i 2) (by omega) dL_law_1407 ?_
  refine cLi (ar := [.int (xs (i + 1)), .int (xs (i + 2))]) (st := [.int v]) C lkL_138 kd_96 (hm M1 h1) (by decide) rfl (Nat.le_of_ble_eq_true rfl) rfl hroom dL_law_1408 (fun M2 h2 => ?_)
  exact ar_icmp_eq (tgt := 1508) C dL_law_1411 (by decide) (fun _ => kk M2 h2) (fun c => absurd rfl c)
set_option maxHeartbeats 1000000 in
set_option maxRecDepth 100000 in
theorem lcs_29 {X : Ctx} {V : Vx} {meth : Method} {cl sl : Nat} {Q : State → Prop} (C : Cx X V (mL meth) 9) {L : Nat} {xs : Nat → Int32} (S : Sc X V L xs) (hroom : cl ≤ (cR X).cells ∧ sl ≤ (cR X).slots) {M : Mm} (hR : Rel M) {i : Nat} (hi : i + 8 ≤ L) (kk : ∀ M1, Rel M1 → AW X V 4 T0 M1 cl sl Q 1508 [(3, .int (nI i)), (2, .ref 96), (1, .ref 0), (0, .retAddr 0)] []) : AW X V 4 T0 M cl sl Q 1416 [(3, .int (nI i)), (2, .ref 96), (1, .ref 0), (0, .retAddr 0)] [] := by
  obtain ⟨v, P1, hx, hm⟩ := op_ask hR (xs (i + 1)) (xs (i + 2))
  refine ar_aload_n (n := 2) C dL_law_1416 rfl rfl ?_
  refine ar_aload_nX (n := 3) C dL_law_1417 rfl rfl ?_
  refine ar_iload_n (n := 0) C dL_law_1418 rfl rfl ?_
  refine ar_iconst (v := 1) C dL_law_1419 (by decide) ?_
  refine ar_iadd C dL_law_1420 ?_
  refine ar_sld (j := i + 1) C S (show nI i + 1 = nI (i + 1) from nI_add i 1) (by omega) dL_law_1421 ?_
  refine ar_aload_nX (n := 3) C dL_law_1422 rfl rfl ?_
  refine ar_iload_n (n := 0) C dL_law_1423 rfl rfl ?_
  refine ar_iconst (v := 2) C dL_law_1424 (by decide) ?_
  refine ar_iadd C dL_law_1425 ?_
  refine ar_sld (j := i + 2) C S (show nI i + 2 = nI (i + 2) from nI_add i 2) (by omega) dL_law_1426 ?_
  refine cLi (ar := [.int (xs (i + 1)), .int (xs (i + 2))]) (st := []) C lkL_139 kd_0 hx (by decide) rfl (Nat.le_of_ble_eq_true rfl) rfl hroom dL_law_1427 (fun M1 h1 => ?_)
  refine ar_aload_n (n := 1) C dL_law_1430 rfl rfl ?_
  refine ar_aload_nX (n := 3) C dL_law_1431 rfl rfl ?_
  refine ar_iload_n (n := 0) C dL_law_1432 rfl rfl ?_
  refine ar_iconst (v := 1) C dL_law_1433 (by decide) ?_
  refine ar_iadd C dL_law_1434 ?_
  refine ar_sld (j := i + 1) C S (show nI i + 1 = nI (i + 1) from nI_add i 1) (by omega) dL_law_1435 ?_
  refine ar_aload_nX (n := 3) C dL_law_1436 rfl rfl ?_
  refine ar_iload_n (n := 0) C dL_law_1437 rfl rfl ?_
  refine ar_iconst (v := 2) C dL_law_1438 (by decide) ?_
  refine ar_iadd C dL_law_1439 ?_
  refine ar_sld (j := i + 2) C S (show nI i + 2 = nI (i + 2) from nI_add i 2) (by omega) dL_law_1440 ?_
  refine cLi (ar := [.int (xs (i + 1)), .int (xs (i + 2))]) (st := [.int v]) C lkL_142 kd_96 (hm M1 h1) (by decide) rfl (Nat.le_of_ble_eq_true rfl) rfl hroom dL_law_1441 (fun M2 h2 => ?_)
  exact ar_icmp_eq (tgt := 1508) C dL_law_1444 (by decide) (fun _ => kk M2 h2) (fun c => absurd rfl c)
set_option maxHeartbeats 1000000 in
set_option maxRecDepth 100000 in
theorem lcs_30 {X : Ctx} {V : Vx} {meth : Method} {cl sl : Nat} {Q : State → Prop} (C : Cx X V (mL meth) 9) {L : Nat} {xs : Nat → Int32} (S : Sc X V L xs) (hroom : cl ≤ (cR X).cells ∧ sl ≤ (cR X).slots) {M : Mm} (hR : Rel M) {i : Nat} (hi : i + 8 ≤ L) (kk : ∀ M1, Rel M1 → AW X V 4 T0 M1 cl sl Q 1508 [(3, .int (nI i)), (2, .ref 96), (1, .ref 0), (0, .retAddr 0)] []) : AW X V 4 T0 M cl sl Q 1449 [(3, .int (nI i)), (2, .ref 96), (1, .ref 0), (0, .retAddr 0)] [] := by
  obtain ⟨v, P1, hx, hm⟩ := op_trace hR (xs (i + 1))
  refine ar_aload_n (n := 2) C dL_law_1449 rfl rfl ?_
  refine ar_aload_nX (n := 3) C dL_law_1450 rfl rfl ?_
  refine ar_iload_n (n := 0) C dL_law_1451 rfl rfl ?_
  refine ar_iconst (v := 1) C dL_law_1452 (by decide) ?_
  refine ar_iadd C dL_law_1453 ?_
  refine ar_sld (j := i + 1) C S (show nI i + 1 = nI (i + 1) from nI_add i 1) (by omega) dL_law_1454 ?_
  refine cLi (ar := [.int (xs (i + 1))]) (st := []) C lkL_143 kd_0 hx (by decide) rfl (Nat.le_of_ble_eq_true rfl) rfl hroom dL_law_1455 (fun M1 h1 => ?_)
  refine ar_aload_n (n := 1) C dL_law_1458 rfl rfl ?_
  refine ar_aload_nX (n := 3) C dL_law_1459 rfl rfl ?_
  refine ar_iload_n (n := 0) C dL_law_1460 rfl rfl ?_
  refine ar_iconst (v := 1) C dL_law_1461 (by decide) ?_
  refine ar_iadd C dL_law_1462 ?_
  refine ar_sld (j := i + 1) C S (show nI i + 1 = nI (i + 1) from nI_add i 1) (by omega) dL_law_1463 ?_
  refine cLi (ar := [.int (xs (i + 1))]) (st := [.int v]) C lkL_146 kd_96 (hm M1 h1) (by decide) rfl (Nat.le_of_ble_eq_true rfl) rfl hroom dL_law_1464 (fun M2 h2 => ?_)
  exact ar_icmp_eq (tgt := 1508) C dL_law_1467 (by decide) (fun _ => kk M2 h2) (fun c => absurd rfl c)
set_option maxHeartbeats 1000000 in
set_option maxRecDepth 100000 in
theorem lcs_31 {X : Ctx} {V : Vx} {meth : Method} {cl sl : Nat} {Q : State → Prop} (C : Cx X V (mL meth) 9) {L : Nat} {xs : Nat → Int32} (S : Sc X V L xs) (hroom : cl ≤ (cR X).cells ∧ sl ≤ (cR X).slots) {M : Mm} (hR : Rel M) {i : Nat} (hi : i + 8 ≤ L) (kk : ∀ M1, Rel M1 → AW X V 4 T0 M1 cl sl Q 1508 [(3, .int (nI i)), (2, .ref 96), (1, .ref 0), (0, .retAddr 0)] []) : AW X V 4 T0 M cl sl Q 1472 [(3, .int (nI i)), (2, .ref 96), (1, .ref 0), (0, .retAddr 0)] [] := by
  obtain ⟨v, P1, hx, hm⟩ := op_count hR (xs (i + 1))
  refine ar_aload_n (n := 2) C dL_law_1472 rfl rfl ?_
  refine ar_aload_nX (n := 3) C dL_law_1473 rfl rfl ?_
  refine ar_iload_n (n := 0) C dL_law_1474 rfl rfl ?_
  refine ar_iconst (v := 1) C dL_law_1475 (by decide) ?_
  refine ar_iadd C dL_law_1476 ?_
  refine ar_sld (j := i + 1) C S (show nI i + 1 = nI (i + 1) from nI_add i 1) (by omega) dL_law_1477 ?_
  refine cLi (ar := [.int (xs (i + 1))]) (st := []) C lkL_147 kd_0 hx (by decide) rfl (Nat.le_of_ble_eq_true rfl) rfl hroom dL_law_1478 (fun M1 h1 => ?_)
  refine ar_aload_n (n := 1) C dL_law_1481 rfl rfl ?_
  refine ar_aload_nX (n := 3) C dL_law_1482 rfl rfl ?_
  refine ar_iload_n (n := 0) C dL_law_1483 rfl rfl ?_
  refine ar_iconst (v := 1) C dL_law_1484 (by decide) ?_
  refine ar_iadd C dL_law_1485 ?_
  refine ar_sld (j := i + 1) C S (show nI i + 1 = nI (i + 1) from nI_add i 1) (by omega) dL_law_1486 ?_
  refine cLi (ar := [.int (xs (i + 1))]) (st := [.int v]) C lkL_150 kd_96 (hm M1 h1) (by decide) rfl (Nat.le_of_ble_eq_true rfl) rfl hroom dL_law_1487 (fun M2 h2 => ?_)
  exact ar_icmp_eq (tgt := 1508) C dL_law_1490 (by decide) (fun _ => kk M2 h2) (fun c => absurd rfl c)
set_option maxHeartbeats 1000000 in
set_option maxRecDepth 100000 in
theorem lcs_32 {X : Ctx} {V : Vx} {meth : Method} {cl sl : Nat} {Q : State → Prop} (C : Cx X V (mL meth) 9) {L : Nat} {xs : Nat → Int32} (S : Sc X V L xs) (hroom : cl ≤ (cR X).cells ∧ sl ≤ (cR X).slots) {M : Mm} (hR : Rel M) {i : Nat} (hi : i + 8 ≤ L) (kk : ∀ M1, Rel M1 → AW X V 4 T0 M1 cl sl Q 1508 [(3, .int (nI i)), (2, .ref 96), (1, .ref 0), (0, .retAddr 0)] []) : AW X V 4 T0 M cl sl Q 1495 [(3, .int (nI i)), (2, .ref 96), (1, .ref 0), (0, .retAddr 0)] [] := by
  obtain ⟨v, P1, hx, hm⟩ := op_status hR 
  refine ar_aload_n (n := 2) C dL_law_1495 rfl rfl ?_
  refine cLi (ar := []) (st := []) C lkL_151 kd_0 hx (by decide) rfl (Nat.le_of_ble_eq_true rfl) rfl hroom dL_law_1496 (fun M1 h1 => ?_)
  refine ar_aload_n (n := 1) C dL_law_1499 rfl rfl ?_
  refine cLi (ar := []) (st := [.int v]) C lkL_154 kd_96 (hm M1 h1) (by decide) rfl (Nat.le_of_ble_eq_true rfl) rfl hroom dL_law_1500 (fun M2 h2 => ?_)
  exact ar_icmp_eq (tgt := 1508) C dL_law_1503 (by decide) (fun _ => kk M2 h2) (fun c => absurd rfl c)
