/-! the law's cases -/
abbrev lwL (i : Nat) : List (Option Value) := [some (.ref 3), some (.ref 4), some (.ref 181), some (.int (nI i))]
def lwQ : Option Value → zhp → Prop := fun r _ => r = some (.int (nI 1))
theorem LI_mono {h : zhp} {N : Nat} {X : Nat → Int32} {B B2 : Nat} (hB : B ≤ B2) (h2 : B2 ≤ 2 ^ 30) (x : LI h N X B) : LI h N X B2 := by
  obtain ⟨hX, S, P, PI, o, c, m, sv, F, s, a, t, l, p, n, hC, hR, hL, h9⟩ := x
  exact ⟨hX, S, P, PI, o, c, m, sv, F, s, a, t, l, p, n, hC, hR, zRL_mono hB h2 hL, by omega⟩
theorem LI_4 {h : zhp} {N : Nat} {X : Nat → Int32} {B : Nat} (x : LI h N X B) : zT h 4 = 5 := by
  obtain ⟨hX, S, P, PI, o, c, m, sv, F, s, a, t, l, p, n, hC, hR, hL, h9⟩ := x
  exact hC.1.1.2.2.1.1
theorem tt_scr {i : zmi} {pc : Nat} {L : List (Option Value)} {st : List Value} {h : zhp} {cc sc : Nat} {Q : Option Value → zhp → Prop} {N k : Nat} {X : Nat → Int32} (d : decode (mC i) pc = .ok (.iaload, 1)) (hX : zSc h N X) (hk : k < N) (hN : N ≤ 2560) (kt : TT i (pc + 1) L (.int (X k) :: st) h cc sc Q) : TT i pc L (.int (nI k) :: .ref 3 :: st) h cc sc Q := by
  refine tt_iald d hX.1 (vp_in_nI (by rw [hX.2.1]; omega) (by rw [hX.2.1]; omega)) ?_
  rw [nI_clamp (by omega), hX.2.2]
  exact kt
theorem tt_sx5 {j5 j6 : zmi} {av : List Value} {h : zhp} {N : Nat} {X : Nat → Int32} {B idx n pc cc sc : Nat} {L : List (Option Value)} {Q : Option Value → zhp → Prop} {stk : List Value} (hS : ST j5 j6 av h N X B) (d : decode (mC iL_law) pc = .ok (.invokevirtual idx, 3)) (hw : zMV (mY iL_law).cls idx j5 n) (hst : stk = av.reverse ++ [.ref 4]) (hn : av.length = n) (ht : zT h 4 = 5) (hcl : (zC 5).1 = (mY j5).cls) (hh : mH j5 < mH iL_law ∧ mL j5 ≤ 17) (hc : cc + mA j5 ≤ mA iL_law) (hs : sc + mS j5 ≤ mS iL_law)
    (k : ∀ (e : Int32) (h1 : zhp), zSc h1 N X → zT h1 181 = 6 → MM j6 (.ref 181 :: av) h1 (fun r2 h2 => r2 = some (.int e) ∧ LI h2 N X B) → TT iL_law (pc + 3) L [.int e] h1 (cc + mA j5) (sc + mS j5) Q) : TT iL_law pc L stk h cc sc Q := by
  refine tt_callV (st := []) hS d hw hst hn ht (by decide) hcl hh hc hs (Nat.zero_le _) (fun r h1 q => ?_)
  obtain ⟨e, rfl, q1, q2, q3⟩ := q
  exact k e h1 q1 q2 q3
theorem tt_sx6 {j6 : zmi} {av : List Value} {h1 : zhp} {N : Nat} {X : Nat → Int32} {B idx n pc cc sc : Nat} {e : Int32} {L : List (Option Value)} {Q : Option Value → zhp → Prop} {stk : List Value} (hM : MM j6 (.ref 181 :: av) h1 (fun r2 h2 => r2 = some (.int e) ∧ LI h2 N X B)) (d : decode (mC iL_law) pc = .ok (.invokevirtual idx, 3)) (hw : zMV (mY iL_law).cls idx j6 n) (hst : stk = av.reverse ++ .ref 181 :: [.int e]) (hn : av.length = n) (ht : zT h1 181 = 6) (hcl : (zC 6).1 = (mY j6).cls) (hh : mH j6 < mH iL_law ∧ mL j6 ≤ 17) (hc : cc + mA j6 ≤ mA iL_law) (hs : sc + mS j6 ≤ mS iL_law)
    (k : ∀ (h2 : zhp), LI h2 N X B → TT iL_law (pc + 3) L [.int e, .int e] h2 (cc + mA j6) (sc + mS j6) Q) : TT iL_law pc L stk h1 cc sc Q := by
  refine tt_callV (st := [.int e]) hM d hw hst hn ht (by decide) hcl hh hc hs (Nat.le_of_ble_eq_true rfl) (fun r h2 q => ?_)
  obtain ⟨rfl, q1⟩ := q
  exact k h2 q1
set_option maxRecDepth 100000 in
set_option maxHeartbeats 4000000 in
theorem lw_c0 {h : zhp} {N : Nat} {X : Nat → Int32} {B i cc sc : Nat} (hI : LI h N X B) (hi : i + 5 ≤ N) (hN : N ≤ 2560) (hc : cc + 2 ≤ 600000) (hs : sc + 18 ≤ 7302250) (hB : B + 6100 ≤ 2 ^ 30) (K : ∀ (h2 : zhp) (c2 s2 : Nat), LI h2 N X (B + 6100) → c2 ≤ cc + 2 → s2 ≤ sc + 18 → TT iL_law 833 (lwL i) [] h2 c2 s2 lwQ) : TT iL_law 148 (lwL i) [] h cc sc lwQ := by
  have hT4 := LI_4 hI
  refine tt_aload_n dL_law_148 rfl ?_
  refine tt_aload_n dL_law_149 rfl ?_
  refine tt_iload_n dL_law_150 rfl ?_
  refine tt_iconst (nI 1) dL_law_151 rfl ?_
  refine tt_iaddN dL_law_152 ?_
  refine tt_scr dL_law_153 hI.1 (by omega) hN ?_
  refine tt_aload_n dL_law_154 rfl ?_
  refine tt_iload_n dL_law_155 rfl ?_
  refine tt_iconst (nI 2) dL_law_156 rfl ?_
  refine tt_iaddN dL_law_157 ?_
  refine tt_scr dL_law_158 hI.1 (by omega) hN ?_
  refine tt_sx5 (st_set hI (X (i + 1)) (X (i + 2))) dL_law_159 vL_13 rfl rfl hT4 rfl (by decide) (by show cc + 0 ≤ 600000; omega) (by show sc + 0 ≤ 7302250; omega) (fun e h1 hX hT6 hM => ?_)
  refine tt_aload_n dL_law_162 rfl ?_
  refine tt_aload_n dL_law_163 rfl ?_
  refine tt_iload_n dL_law_164 rfl ?_
  refine tt_iconst (nI 1) dL_law_165 rfl ?_
  refine tt_iaddN dL_law_166 ?_
  refine tt_scr dL_law_167 hX (by omega) hN ?_
  refine tt_aload_n dL_law_168 rfl ?_
  refine tt_iload_n dL_law_169 rfl ?_
  refine tt_iconst (nI 2) dL_law_170 rfl ?_
  refine tt_iaddN dL_law_171 ?_
  refine tt_scr dL_law_172 hX (by omega) hN ?_
  refine tt_sx6 hM dL_law_173 vL_17 rfl rfl hT6 rfl (by decide) (by show cc + 0 + 0 ≤ 600000; omega) (by show sc + 0 + 0 ≤ 7302250; omega) (fun h2 hI2 => ?_)
  exact tt_icmp_eq (tgt := 833) dL_law_176 (by decide) (fun _ => K h2 _ _ (LI_mono (by omega) (by omega) hI2) (by show cc + 0 + 0 ≤ cc + 2; omega) (by show sc + 0 + 0 ≤ sc + 18; omega)) (fun q => absurd rfl q)
set_option maxRecDepth 100000 in
set_option maxHeartbeats 4000000 in
theorem lw_c1 {h : zhp} {N : Nat} {X : Nat → Int32} {B i cc sc : Nat} (hI : LI h N X B) (hi : i + 5 ≤ N) (hN : N ≤ 2560) (hc : cc + 2 ≤ 600000) (hs : sc + 18 ≤ 7302250) (hB : B + 6100 ≤ 2 ^ 30) (K : ∀ (h2 : zhp) (c2 s2 : Nat), LI h2 N X (B + 6100) → c2 ≤ cc + 2 → s2 ≤ sc + 18 → TT iL_law 833 (lwL i) [] h2 c2 s2 lwQ) : TT iL_law 181 (lwL i) [] h cc sc lwQ := by
  have hT4 := LI_4 hI
  refine tt_aload_n dL_law_181 rfl ?_
  refine tt_aload_n dL_law_182 rfl ?_
  refine tt_iload_n dL_law_183 rfl ?_
  refine tt_iconst (nI 1) dL_law_184 rfl ?_
  refine tt_iaddN dL_law_185 ?_
  refine tt_scr dL_law_186 hI.1 (by omega) hN ?_
  refine tt_aload_n dL_law_187 rfl ?_
  refine tt_iload_n dL_law_188 rfl ?_
  refine tt_iconst (nI 2) dL_law_189 rfl ?_
  refine tt_iaddN dL_law_190 ?_
  refine tt_scr dL_law_191 hI.1 (by omega) hN ?_
  refine tt_sx5 (st_places hI (X (i + 1)) (X (i + 2))) dL_law_192 vL_18 rfl rfl hT4 rfl (by decide) (by show cc + 0 ≤ 600000; omega) (by show sc + 0 ≤ 7302250; omega) (fun e h1 hX hT6 hM => ?_)
  refine tt_aload_n dL_law_195 rfl ?_
  refine tt_aload_n dL_law_196 rfl ?_
  refine tt_iload_n dL_law_197 rfl ?_
  refine tt_iconst (nI 1) dL_law_198 rfl ?_
  refine tt_iaddN dL_law_199 ?_
  refine tt_scr dL_law_200 hX (by omega) hN ?_
  refine tt_aload_n dL_law_201 rfl ?_
  refine tt_iload_n dL_law_202 rfl ?_
  refine tt_iconst (nI 2) dL_law_203 rfl ?_
  refine tt_iaddN dL_law_204 ?_
  refine tt_scr dL_law_205 hX (by omega) hN ?_
  refine tt_sx6 hM dL_law_206 vL_21 rfl rfl hT6 rfl (by decide) (by show cc + 0 + 0 ≤ 600000; omega) (by show sc + 0 + 0 ≤ 7302250; omega) (fun h2 hI2 => ?_)
  exact tt_icmp_eq (tgt := 833) dL_law_209 (by decide) (fun _ => K h2 _ _ (LI_mono (by omega) (by omega) hI2) (by show cc + 0 + 0 ≤ cc + 2; omega) (by show sc + 0 + 0 ≤ sc + 18; omega)) (fun q => absurd rfl q)
set_option maxRecDepth 100000 in
set_option maxHeartbeats 4000000 in
theorem lw_c2 {h : zhp} {N : Nat} {X : Nat → Int32} {B i cc sc : Nat} (hI : LI h N X B) (hi : i + 5 ≤ N) (hN : N ≤ 2560) (hc : cc + 2 ≤ 600000) (hs : sc + 18 ≤ 7302250) (hB : B + 6100 ≤ 2 ^ 30) (K : ∀ (h2 : zhp) (c2 s2 : Nat), LI h2 N X (B + 6100) → c2 ≤ cc + 2 → s2 ≤ sc + 18 → TT iL_law 833 (lwL i) [] h2 c2 s2 lwQ) : TT iL_law 214 (lwL i) [] h cc sc lwQ := by
  have hT4 := LI_4 hI
  refine tt_aload_n dL_law_214 rfl ?_
  refine tt_aload_n dL_law_215 rfl ?_
  refine tt_iload_n dL_law_216 rfl ?_
  refine tt_iconst (nI 1) dL_law_217 rfl ?_
  refine tt_iaddN dL_law_218 ?_
  refine tt_scr dL_law_219 hI.1 (by omega) hN ?_
  refine tt_aload_n dL_law_220 rfl ?_
  refine tt_iload_n dL_law_221 rfl ?_
  refine tt_iconst (nI 2) dL_law_222 rfl ?_
  refine tt_iaddN dL_law_223 ?_
  refine tt_scr dL_law_224 hI.1 (by omega) hN ?_
  refine tt_aload_n dL_law_225 rfl ?_
  refine tt_iload_n dL_law_226 rfl ?_
  refine tt_iconst (nI 3) dL_law_227 rfl ?_
  refine tt_iaddN dL_law_228 ?_
  refine tt_scr dL_law_229 hI.1 (by omega) hN ?_
  refine tt_aload_n dL_law_230 rfl ?_
  refine tt_iload_n dL_law_231 rfl ?_
  refine tt_iconst (nI 4) dL_law_232 rfl ?_
  refine tt_iaddN dL_law_233 ?_
  refine tt_scr dL_law_234 hI.1 (by omega) hN ?_
  refine tt_sx5 (st_put hI (X (i + 1)) (X (i + 2)) (X (i + 3)) (X (i + 4))) dL_law_235 vL_22 rfl rfl hT4 rfl (by decide) (by show cc + 0 ≤ 600000; omega) (by show sc + 0 ≤ 7302250; omega) (fun e h1 hX hT6 hM => ?_)
  refine tt_aload_n dL_law_238 rfl ?_
  refine tt_aload_n dL_law_239 rfl ?_
  refine tt_iload_n dL_law_240 rfl ?_
  refine tt_iconst (nI 1) dL_law_241 rfl ?_
  refine tt_iaddN dL_law_242 ?_
  refine tt_scr dL_law_243 hX (by omega) hN ?_
  refine tt_aload_n dL_law_244 rfl ?_
  refine tt_iload_n dL_law_245 rfl ?_
  refine tt_iconst (nI 2) dL_law_246 rfl ?_
  refine tt_iaddN dL_law_247 ?_
  refine tt_scr dL_law_248 hX (by omega) hN ?_
  refine tt_aload_n dL_law_249 rfl ?_
  refine tt_iload_n dL_law_250 rfl ?_
  refine tt_iconst (nI 3) dL_law_251 rfl ?_
  refine tt_iaddN dL_law_252 ?_
  refine tt_scr dL_law_253 hX (by omega) hN ?_
  refine tt_aload_n dL_law_254 rfl ?_
  refine tt_iload_n dL_law_255 rfl ?_
  refine tt_iconst (nI 4) dL_law_256 rfl ?_
  refine tt_iaddN dL_law_257 ?_
  refine tt_scr dL_law_258 hX (by omega) hN ?_
  refine tt_sx6 hM dL_law_259 vL_26 rfl rfl hT6 rfl (by decide) (by show cc + 0 + 0 ≤ 600000; omega) (by show sc + 0 + 0 ≤ 7302250; omega) (fun h2 hI2 => ?_)
  exact tt_icmp_eq (tgt := 833) dL_law_262 (by decide) (fun _ => K h2 _ _ (LI_mono (by omega) (by omega) hI2) (by show cc + 0 + 0 ≤ cc + 2; omega) (by show sc + 0 + 0 ≤ sc + 18; omega)) (fun q => absurd rfl q)
set_option maxRecDepth 100000 in
set_option maxHeartbeats 4000000 in
theorem lw_c3 {h : zhp} {N : Nat} {X : Nat → Int32} {B i cc sc : Nat} (hI : LI h N X B) (hi : i + 5 ≤ N) (hN : N ≤ 2560) (hc : cc + 2 ≤ 600000) (hs : sc + 18 ≤ 7302250) (hB : B + 6100 ≤ 2 ^ 30) (K : ∀ (h2 : zhp) (c2 s2 : Nat), LI h2 N X (B + 6100) → c2 ≤ cc + 2 → s2 ≤ sc + 18 → TT iL_law 833 (lwL i) [] h2 c2 s2 lwQ) : TT iL_law 267 (lwL i) [] h cc sc lwQ := by
  have hT4 := LI_4 hI
  refine tt_aload_n dL_law_267 rfl ?_
  refine tt_aload_n dL_law_268 rfl ?_
  refine tt_iload_n dL_law_269 rfl ?_
  refine tt_iconst (nI 1) dL_law_270 rfl ?_
  refine tt_iaddN dL_law_271 ?_
  refine tt_scr dL_law_272 hI.1 (by omega) hN ?_
  refine tt_sx5 (st_swap hI (X (i + 1))) dL_law_273 vL_27 rfl rfl hT4 rfl (by decide) (by show cc + 0 ≤ 600000; omega) (by show sc + 0 ≤ 7302250; omega) (fun e h1 hX hT6 hM => ?_)
  refine tt_aload_n dL_law_276 rfl ?_
  refine tt_aload_n dL_law_277 rfl ?_
  refine tt_iload_n dL_law_278 rfl ?_
  refine tt_iconst (nI 1) dL_law_279 rfl ?_
  refine tt_iaddN dL_law_280 ?_
  refine tt_scr dL_law_281 hX (by omega) hN ?_
  refine tt_sx6 hM dL_law_282 vL_31 rfl rfl hT6 rfl (by decide) (by show cc + 0 + 0 ≤ 600000; omega) (by show sc + 0 + 0 ≤ 7302250; omega) (fun h2 hI2 => ?_)
  exact tt_icmp_eq (tgt := 833) dL_law_285 (by decide) (fun _ => K h2 _ _ (LI_mono (by omega) (by omega) hI2) (by show cc + 0 + 0 ≤ cc + 2; omega) (by show sc + 0 + 0 ≤ sc + 18; omega)) (fun q => absurd rfl q)
set_option maxRecDepth 100000 in
set_option maxHeartbeats 4000000 in
theorem lw_c4 {h : zhp} {N : Nat} {X : Nat → Int32} {B i cc sc : Nat} (hI : LI h N X B) (hi : i + 5 ≤ N) (hN : N ≤ 2560) (hc : cc + 2 ≤ 600000) (hs : sc + 18 ≤ 7302250) (hB : B + 6100 ≤ 2 ^ 30) (K : ∀ (h2 : zhp) (c2 s2 : Nat), LI h2 N X (B + 6100) → c2 ≤ cc + 2 → s2 ≤ sc + 18 → TT iL_law 833 (lwL i) [] h2 c2 s2 lwQ) : TT iL_law 290 (lwL i) [] h cc sc lwQ := by
  have hT4 := LI_4 hI
  refine tt_aload_n dL_law_290 rfl ?_
  refine tt_aload_n dL_law_291 rfl ?_
  refine tt_iload_n dL_law_292 rfl ?_
  refine tt_iconst (nI 1) dL_law_293 rfl ?_
  refine tt_iaddN dL_law_294 ?_
  refine tt_scr dL_law_295 hI.1 (by omega) hN ?_
  refine tt_sx5 (st_take hI (X (i + 1))) dL_law_296 vL_32 rfl rfl hT4 rfl (by decide) (by show cc + 0 ≤ 600000; omega) (by show sc + 0 ≤ 7302250; omega) (fun e h1 hX hT6 hM => ?_)
  refine tt_aload_n dL_law_299 rfl ?_
  refine tt_aload_n dL_law_300 rfl ?_
  refine tt_iload_n dL_law_301 rfl ?_
  refine tt_iconst (nI 1) dL_law_302 rfl ?_
  refine tt_iaddN dL_law_303 ?_
  refine tt_scr dL_law_304 hX (by omega) hN ?_
  refine tt_sx6 hM dL_law_305 vL_35 rfl rfl hT6 rfl (by decide) (by show cc + 0 + 0 ≤ 600000; omega) (by show sc + 0 + 0 ≤ 7302250; omega) (fun h2 hI2 => ?_)
  exact tt_icmp_eq (tgt := 833) dL_law_308 (by decide) (fun _ => K h2 _ _ (LI_mono (by omega) (by omega) hI2) (by show cc + 0 + 0 ≤ cc + 2; omega) (by show sc + 0 + 0 ≤ sc + 18; omega)) (fun q => absurd rfl q)
set_option maxRecDepth 100000 in
set_option maxHeartbeats 4000000 in
theorem lw_c5 {h : zhp} {N : Nat} {X : Nat → Int32} {B i cc sc : Nat} (hI : LI h N X B) (hi : i + 5 ≤ N) (hN : N ≤ 2560) (hc : cc + 2 ≤ 600000) (hs : sc + 18 ≤ 7302250) (hB : B + 6100 ≤ 2 ^ 30) (K : ∀ (h2 : zhp) (c2 s2 : Nat), LI h2 N X (B + 6100) → c2 ≤ cc + 2 → s2 ≤ sc + 18 → TT iL_law 833 (lwL i) [] h2 c2 s2 lwQ) : TT iL_law 313 (lwL i) [] h cc sc lwQ := by
  have hT4 := LI_4 hI
  refine tt_aload_n dL_law_313 rfl ?_
  refine tt_aload_n dL_law_314 rfl ?_
  refine tt_iload_n dL_law_315 rfl ?_
  refine tt_iconst (nI 1) dL_law_316 rfl ?_
  refine tt_iaddN dL_law_317 ?_
  refine tt_scr dL_law_318 hI.1 (by omega) hN ?_
  refine tt_aload_n dL_law_319 rfl ?_
  refine tt_iload_n dL_law_320 rfl ?_
  refine tt_iconst (nI 2) dL_law_321 rfl ?_
  refine tt_iaddN dL_law_322 ?_
  refine tt_scr dL_law_323 hI.1 (by omega) hN ?_
  refine tt_sx5 (st_permit hI (by omega) (X (i + 1)) (X (i + 2))) dL_law_324 vL_36 rfl rfl hT4 rfl (by decide) (by show cc + 0 ≤ 600000; omega) (by show sc + 0 ≤ 7302250; omega) (fun e h1 hX hT6 hM => ?_)
  refine tt_aload_n dL_law_327 rfl ?_
  refine tt_aload_n dL_law_328 rfl ?_
  refine tt_iload_n dL_law_329 rfl ?_
  refine tt_iconst (nI 1) dL_law_330 rfl ?_
  refine tt_iaddN dL_law_331 ?_
  refine tt_scr dL_law_332 hX (by omega) hN ?_
  refine tt_aload_n dL_law_333 rfl ?_
  refine tt_iload_n dL_law_334 rfl ?_
  refine tt_iconst (nI 2) dL_law_335 rfl ?_
  refine tt_iaddN dL_law_336 ?_
  refine tt_scr dL_law_337 hX (by omega) hN ?_
  refine tt_sx6 hM dL_law_338 vL_39 rfl rfl hT6 rfl (by decide) (by show cc + 0 + 0 ≤ 600000; omega) (by show sc + 0 + 0 ≤ 7302250; omega) (fun h2 hI2 => ?_)
  exact tt_icmp_eq (tgt := 833) dL_law_341 (by decide) (fun _ => K h2 _ _ (LI_mono (by omega) (by omega) hI2) (by show cc + 0 + 0 ≤ cc + 2; omega) (by show sc + 0 + 0 ≤ sc + 18; omega)) (fun q => absurd rfl q)
set_option maxRecDepth 100000 in
set_option maxHeartbeats 4000000 in
theorem lw_c6 {h : zhp} {N : Nat} {X : Nat → Int32} {B i cc sc : Nat} (hI : LI h N X B) (hi : i + 5 ≤ N) (hN : N ≤ 2560) (hc : cc + 2 ≤ 600000) (hs : sc + 18 ≤ 7302250) (hB : B + 6100 ≤ 2 ^ 30) (K : ∀ (h2 : zhp) (c2 s2 : Nat), LI h2 N X (B + 6100) → c2 ≤ cc + 2 → s2 ≤ sc + 18 → TT iL_law 833 (lwL i) [] h2 c2 s2 lwQ) : TT iL_law 346 (lwL i) [] h cc sc lwQ := by
  have hT4 := LI_4 hI
  refine tt_aload_n dL_law_346 rfl ?_
  refine tt_aload_n dL_law_347 rfl ?_
  refine tt_iload_n dL_law_348 rfl ?_
  refine tt_iconst (nI 1) dL_law_349 rfl ?_
  refine tt_iaddN dL_law_350 ?_
  refine tt_scr dL_law_351 hI.1 (by omega) hN ?_
  refine tt_sx5 (st_oil hI (X (i + 1))) dL_law_352 vL_40 rfl rfl hT4 rfl (by decide) (by show cc + 0 ≤ 600000; omega) (by show sc + 0 ≤ 7302250; omega) (fun e h1 hX hT6 hM => ?_)
  refine tt_aload_n dL_law_355 rfl ?_
  refine tt_aload_n dL_law_356 rfl ?_
  refine tt_iload_n dL_law_357 rfl ?_
  refine tt_iconst (nI 1) dL_law_358 rfl ?_
  refine tt_iaddN dL_law_359 ?_
  refine tt_scr dL_law_360 hX (by omega) hN ?_
  refine tt_sx6 hM dL_law_361 vL_43 rfl rfl hT6 rfl (by decide) (by show cc + 0 + 0 ≤ 600000; omega) (by show sc + 0 + 0 ≤ 7302250; omega) (fun h2 hI2 => ?_)
  exact tt_icmp_eq (tgt := 833) dL_law_364 (by decide) (fun _ => K h2 _ _ (LI_mono (by omega) (by omega) hI2) (by show cc + 0 + 0 ≤ cc + 2; omega) (by show sc + 0 + 0 ≤ sc + 18; omega)) (fun q => absurd rfl q)
set_option maxRecDepth 100000 in
set_option maxHeartbeats 4000000 in
theorem lw_c7 {h : zhp} {N : Nat} {X : Nat → Int32} {B i cc sc : Nat} (hI : LI h N X B) (hi : i + 5 ≤ N) (hN : N ≤ 2560) (hc : cc + 2 ≤ 600000) (hs : sc + 18 ≤ 7302250) (hB : B + 6100 ≤ 2 ^ 30) (K : ∀ (h2 : zhp) (c2 s2 : Nat), LI h2 N X (B + 6100) → c2 ≤ cc + 2 → s2 ≤ sc + 18 → TT iL_law 833 (lwL i) [] h2 c2 s2 lwQ) : TT iL_law 369 (lwL i) [] h cc sc lwQ := by
  have hT4 := LI_4 hI
  refine tt_aload_n dL_law_369 rfl ?_
  refine tt_aload_n dL_law_370 rfl ?_
  refine tt_iload_n dL_law_371 rfl ?_
  refine tt_iconst (nI 1) dL_law_372 rfl ?_
  refine tt_iaddN dL_law_373 ?_
  refine tt_scr dL_law_374 hI.1 (by omega) hN ?_
  refine tt_aload_n dL_law_375 rfl ?_
  refine tt_iload_n dL_law_376 rfl ?_
  refine tt_iconst (nI 2) dL_law_377 rfl ?_
  refine tt_iaddN dL_law_378 ?_
  refine tt_scr dL_law_379 hI.1 (by omega) hN ?_
  refine tt_sx5 (st_growth hI (X (i + 1)) (X (i + 2))) dL_law_380 vL_44 rfl rfl hT4 rfl (by decide) (by show cc + 0 ≤ 600000; omega) (by show sc + 0 ≤ 7302250; omega) (fun e h1 hX hT6 hM => ?_)
  refine tt_aload_n dL_law_383 rfl ?_
  refine tt_aload_n dL_law_384 rfl ?_
  refine tt_iload_n dL_law_385 rfl ?_
  refine tt_iconst (nI 1) dL_law_386 rfl ?_
  refine tt_iaddN dL_law_387 ?_
  refine tt_scr dL_law_388 hX (by omega) hN ?_
  refine tt_aload_n dL_law_389 rfl ?_
  refine tt_iload_n dL_law_390 rfl ?_
  refine tt_iconst (nI 2) dL_law_391 rfl ?_
  refine tt_iaddN dL_law_392 ?_
  refine tt_scr dL_law_393 hX (by omega) hN ?_
  refine tt_sx6 hM dL_law_394 vL_47 rfl rfl hT6 rfl (by decide) (by show cc + 0 + 0 ≤ 600000; omega) (by show sc + 0 + 0 ≤ 7302250; omega) (fun h2 hI2 => ?_)
  exact tt_icmp_eq (tgt := 833) dL_law_397 (by decide) (fun _ => K h2 _ _ (LI_mono (by omega) (by omega) hI2) (by show cc + 0 + 0 ≤ cc + 2; omega) (by show sc + 0 + 0 ≤ sc + 18; omega)) (fun q => absurd rfl q)
set_option maxRecDepth 100000 in
set_option maxHeartbeats 4000000 in
theorem lw_c8 {h : zhp} {N : Nat} {X : Nat → Int32} {B i cc sc : Nat} (hI : LI h N X B) (hi : i + 5 ≤ N) (hN : N ≤ 2560) (hc : cc + 2 ≤ 600000) (hs : sc + 18 ≤ 7302250) (hB : B + 6100 ≤ 2 ^ 30) (K : ∀ (h2 : zhp) (c2 s2 : Nat), LI h2 N X (B + 6100) → c2 ≤ cc + 2 → s2 ≤ sc + 18 → TT iL_law 833 (lwL i) [] h2 c2 s2 lwQ) : TT iL_law 402 (lwL i) [] h cc sc lwQ := by
  have hT4 := LI_4 hI
  refine tt_aload_n dL_law_402 rfl ?_
  refine tt_aload_n dL_law_403 rfl ?_
  refine tt_iload_n dL_law_404 rfl ?_
  refine tt_iconst (nI 1) dL_law_405 rfl ?_
  refine tt_iaddN dL_law_406 ?_
  refine tt_scr dL_law_407 hI.1 (by omega) hN ?_
  refine tt_sx5 (st_pass hI (X (i + 1))) dL_law_408 vL_48 rfl rfl hT4 rfl (by decide) (by show cc + 0 ≤ 600000; omega) (by show sc + 0 ≤ 7302250; omega) (fun e h1 hX hT6 hM => ?_)
  refine tt_aload_n dL_law_411 rfl ?_
  refine tt_aload_n dL_law_412 rfl ?_
  refine tt_iload_n dL_law_413 rfl ?_
  refine tt_iconst (nI 1) dL_law_414 rfl ?_
  refine tt_iaddN dL_law_415 ?_
  refine tt_scr dL_law_416 hX (by omega) hN ?_
  refine tt_sx6 hM dL_law_417 vL_51 rfl rfl hT6 rfl (by decide) (by show cc + 0 + 0 ≤ 600000; omega) (by show sc + 0 + 0 ≤ 7302250; omega) (fun h2 hI2 => ?_)
  exact tt_icmp_eq (tgt := 833) dL_law_420 (by decide) (fun _ => K h2 _ _ (LI_mono (by omega) (by omega) hI2) (by show cc + 0 + 0 ≤ cc + 2; omega) (by show sc + 0 + 0 ≤ sc + 18; omega)) (fun q => absurd rfl q)
set_option maxRecDepth 100000 in
set_option maxHeartbeats 4000000 in
theorem lw_c9 {h : zhp} {N : Nat} {X : Nat → Int32} {B i cc sc : Nat} (hI : LI h N X B) (hi : i + 5 ≤ N) (hN : N ≤ 2560) (hc : cc + 2 ≤ 600000) (hs : sc + 18 ≤ 7302250) (hB : B + 6100 ≤ 2 ^ 30) (K : ∀ (h2 : zhp) (c2 s2 : Nat), LI h2 N X (B + 6100) → c2 ≤ cc + 2 → s2 ≤ sc + 18 → TT iL_law 833 (lwL i) [] h2 c2 s2 lwQ) : TT iL_law 425 (lwL i) [] h cc sc lwQ := by
  have hT4 := LI_4 hI
  refine tt_aload_n dL_law_425 rfl ?_
  refine tt_sx5 (st_run hI (by omega) ) dL_law_426 vL_52 rfl rfl hT4 rfl (by decide) (by show cc + 2 ≤ 600000; omega) (by show sc + 18 ≤ 7302250; omega) (fun e h1 hX hT6 hM => ?_)
  refine tt_aload_n dL_law_429 rfl ?_
  refine tt_sx6 hM dL_law_430 vL_56 rfl rfl hT6 rfl (by decide) (by show cc + 2 + 0 ≤ 600000; omega) (by show sc + 18 + 0 ≤ 7302250; omega) (fun h2 hI2 => ?_)
  exact tt_icmp_eq (tgt := 833) dL_law_433 (by decide) (fun _ => K h2 _ _ (LI_mono (by omega) (by omega) hI2) (by show cc + 2 + 0 ≤ cc + 2; omega) (by show sc + 18 + 0 ≤ sc + 18; omega)) (fun q => absurd rfl q)
set_option maxRecDepth 100000 in
set_option maxHeartbeats 4000000 in
theorem lw_c10 {h : zhp} {N : Nat} {X : Nat → Int32} {B i cc sc : Nat} (hI : LI h N X B) (hi : i + 5 ≤ N) (hN : N ≤ 2560) (hc : cc + 2 ≤ 600000) (hs : sc + 18 ≤ 7302250) (hB : B + 6100 ≤ 2 ^ 30) (K : ∀ (h2 : zhp) (c2 s2 : Nat), LI h2 N X (B + 6100) → c2 ≤ cc + 2 → s2 ≤ sc + 18 → TT iL_law 833 (lwL i) [] h2 c2 s2 lwQ) : TT iL_law 438 (lwL i) [] h cc sc lwQ := by
  have hT4 := LI_4 hI
  refine tt_aload_n dL_law_438 rfl ?_
  refine tt_aload_n dL_law_439 rfl ?_
  refine tt_iload_n dL_law_440 rfl ?_
  refine tt_iconst (nI 1) dL_law_441 rfl ?_
  refine tt_iaddN dL_law_442 ?_
  refine tt_scr dL_law_443 hI.1 (by omega) hN ?_
  refine tt_aload_n dL_law_444 rfl ?_
  refine tt_iload_n dL_law_445 rfl ?_
  refine tt_iconst (nI 2) dL_law_446 rfl ?_
  refine tt_iaddN dL_law_447 ?_
  refine tt_scr dL_law_448 hI.1 (by omega) hN ?_
  refine tt_sx5 (st_skip hI (X (i + 1)) (X (i + 2))) dL_law_449 vL_57 rfl rfl hT4 rfl (by decide) (by show cc + 0 ≤ 600000; omega) (by show sc + 0 ≤ 7302250; omega) (fun e h1 hX hT6 hM => ?_)
  refine tt_aload_n dL_law_452 rfl ?_
  refine tt_aload_n dL_law_453 rfl ?_
  refine tt_iload_n dL_law_454 rfl ?_
  refine tt_iconst (nI 1) dL_law_455 rfl ?_
  refine tt_iaddN dL_law_456 ?_
  refine tt_scr dL_law_457 hX (by omega) hN ?_
  refine tt_aload_n dL_law_458 rfl ?_
  refine tt_iload_n dL_law_459 rfl ?_
  refine tt_iconst (nI 2) dL_law_460 rfl ?_
  refine tt_iaddN dL_law_461 ?_
  refine tt_scr dL_law_462 hX (by omega) hN ?_
  refine tt_sx6 hM dL_law_463 vL_60 rfl rfl hT6 rfl (by decide) (by show cc + 0 + 0 ≤ 600000; omega) (by show sc + 0 + 0 ≤ 7302250; omega) (fun h2 hI2 => ?_)
  exact tt_icmp_eq (tgt := 833) dL_law_466 (by decide) (fun _ => K h2 _ _ (LI_mono (by omega) (by omega) hI2) (by show cc + 0 + 0 ≤ cc + 2; omega) (by show sc + 0 + 0 ≤ sc + 18; omega)) (fun q => absurd rfl q)
set_option maxRecDepth 100000 in
set_option maxHeartbeats 4000000 in
theorem lw_c11 {h : zhp} {N : Nat} {X : Nat → Int32} {B i cc sc : Nat} (hI : LI h N X B) (hi : i + 5 ≤ N) (hN : N ≤ 2560) (hc : cc + 2 ≤ 600000) (hs : sc + 18 ≤ 7302250) (hB : B + 6100 ≤ 2 ^ 30) (K : ∀ (h2 : zhp) (c2 s2 : Nat), LI h2 N X (B + 6100) → c2 ≤ cc + 2 → s2 ≤ sc + 18 → TT iL_law 833 (lwL i) [] h2 c2 s2 lwQ) : TT iL_law 471 (lwL i) [] h cc sc lwQ := by
  have hT4 := LI_4 hI
  refine tt_aload_n dL_law_471 rfl ?_
  refine tt_aload_n dL_law_472 rfl ?_
  refine tt_iload_n dL_law_473 rfl ?_
  refine tt_iconst (nI 1) dL_law_474 rfl ?_
  refine tt_iaddN dL_law_475 ?_
  refine tt_scr dL_law_476 hI.1 (by omega) hN ?_
  refine tt_aload_n dL_law_477 rfl ?_
  refine tt_iload_n dL_law_478 rfl ?_
  refine tt_iconst (nI 2) dL_law_479 rfl ?_
  refine tt_iaddN dL_law_480 ?_
  refine tt_scr dL_law_481 hI.1 (by omega) hN ?_
  refine tt_sx5 (st_street hI (X (i + 1)) (X (i + 2))) dL_law_482 vL_61 rfl rfl hT4 rfl (by decide) (by show cc + 0 ≤ 600000; omega) (by show sc + 0 ≤ 7302250; omega) (fun e h1 hX hT6 hM => ?_)
  refine tt_aload_n dL_law_485 rfl ?_
  refine tt_aload_n dL_law_486 rfl ?_
  refine tt_iload_n dL_law_487 rfl ?_
  refine tt_iconst (nI 1) dL_law_488 rfl ?_
  refine tt_iaddN dL_law_489 ?_
  refine tt_scr dL_law_490 hX (by omega) hN ?_
  refine tt_aload_n dL_law_491 rfl ?_
  refine tt_iload_n dL_law_492 rfl ?_
  refine tt_iconst (nI 2) dL_law_493 rfl ?_
  refine tt_iaddN dL_law_494 ?_
  refine tt_scr dL_law_495 hX (by omega) hN ?_
  refine tt_sx6 hM dL_law_496 vL_64 rfl rfl hT6 rfl (by decide) (by show cc + 0 + 0 ≤ 600000; omega) (by show sc + 0 + 0 ≤ 7302250; omega) (fun h2 hI2 => ?_)
  exact tt_icmp_eq (tgt := 833) dL_law_499 (by decide) (fun _ => K h2 _ _ (LI_mono (by omega) (by omega) hI2) (by show cc + 0 + 0 ≤ cc + 2; omega) (by show sc + 0 + 0 ≤ sc + 18; omega)) (fun q => absurd rfl q)
set_option maxRecDepth 100000 in
set_option maxHeartbeats 4000000 in
theorem lw_c12 {h : zhp} {N : Nat} {X : Nat → Int32} {B i cc sc : Nat} (hI : LI h N X B) (hi : i + 5 ≤ N) (hN : N ≤ 2560) (hc : cc + 2 ≤ 600000) (hs : sc + 18 ≤ 7302250) (hB : B + 6100 ≤ 2 ^ 30) (K : ∀ (h2 : zhp) (c2 s2 : Nat), LI h2 N X (B + 6100) → c2 ≤ cc + 2 → s2 ≤ sc + 18 → TT iL_law 833 (lwL i) [] h2 c2 s2 lwQ) : TT iL_law 504 (lwL i) [] h cc sc lwQ := by
  have hT4 := LI_4 hI
  refine tt_aload_n dL_law_504 rfl ?_
  refine tt_aload_n dL_law_505 rfl ?_
  refine tt_iload_n dL_law_506 rfl ?_
  refine tt_iconst (nI 1) dL_law_507 rfl ?_
  refine tt_iaddN dL_law_508 ?_
  refine tt_scr dL_law_509 hI.1 (by omega) hN ?_
  refine tt_aload_n dL_law_510 rfl ?_
  refine tt_iload_n dL_law_511 rfl ?_
  refine tt_iconst (nI 2) dL_law_512 rfl ?_
  refine tt_iaddN dL_law_513 ?_
  refine tt_scr dL_law_514 hI.1 (by omega) hN ?_
  refine tt_sx5 (st_customer hI (X (i + 1)) (X (i + 2))) dL_law_515 vL_65 rfl rfl hT4 rfl (by decide) (by show cc + 0 ≤ 600000; omega) (by show sc + 0 ≤ 7302250; omega) (fun e h1 hX hT6 hM => ?_)
  refine tt_aload_n dL_law_518 rfl ?_
  refine tt_aload_n dL_law_519 rfl ?_
  refine tt_iload_n dL_law_520 rfl ?_
  refine tt_iconst (nI 1) dL_law_521 rfl ?_
  refine tt_iaddN dL_law_522 ?_
  refine tt_scr dL_law_523 hX (by omega) hN ?_
  refine tt_aload_n dL_law_524 rfl ?_
  refine tt_iload_n dL_law_525 rfl ?_
  refine tt_iconst (nI 2) dL_law_526 rfl ?_
  refine tt_iaddN dL_law_527 ?_
  refine tt_scr dL_law_528 hX (by omega) hN ?_
  refine tt_sx6 hM dL_law_529 vL_68 rfl rfl hT6 rfl (by decide) (by show cc + 0 + 0 ≤ 600000; omega) (by show sc + 0 + 0 ≤ 7302250; omega) (fun h2 hI2 => ?_)
  exact tt_icmp_eq (tgt := 833) dL_law_532 (by decide) (fun _ => K h2 _ _ (LI_mono (by omega) (by omega) hI2) (by show cc + 0 + 0 ≤ cc + 2; omega) (by show sc + 0 + 0 ≤ sc + 18; omega)) (fun q => absurd rfl q)
set_option maxRecDepth 100000 in
set_option maxHeartbeats 4000000 in
theorem lw_c13 {h : zhp} {N : Nat} {X : Nat → Int32} {B i cc sc : Nat} (hI : LI h N X B) (hi : i + 5 ≤ N) (hN : N ≤ 2560) (hc : cc + 2 ≤ 600000) (hs : sc + 18 ≤ 7302250) (hB : B + 6100 ≤ 2 ^ 30) (K : ∀ (h2 : zhp) (c2 s2 : Nat), LI h2 N X (B + 6100) → c2 ≤ cc + 2 → s2 ≤ sc + 18 → TT iL_law 833 (lwL i) [] h2 c2 s2 lwQ) : TT iL_law 537 (lwL i) [] h cc sc lwQ := by
  have hT4 := LI_4 hI
  refine tt_aload_n dL_law_537 rfl ?_
  refine tt_aload_n dL_law_538 rfl ?_
  refine tt_iload_n dL_law_539 rfl ?_
  refine tt_iconst (nI 1) dL_law_540 rfl ?_
  refine tt_iaddN dL_law_541 ?_
  refine tt_scr dL_law_542 hI.1 (by omega) hN ?_
  refine tt_sx5 (st_count hI (X (i + 1))) dL_law_543 vL_69 rfl rfl hT4 rfl (by decide) (by show cc + 0 ≤ 600000; omega) (by show sc + 0 ≤ 7302250; omega) (fun e h1 hX hT6 hM => ?_)
  refine tt_aload_n dL_law_546 rfl ?_
  refine tt_aload_n dL_law_547 rfl ?_
  refine tt_iload_n dL_law_548 rfl ?_
  refine tt_iconst (nI 1) dL_law_549 rfl ?_
  refine tt_iaddN dL_law_550 ?_
  refine tt_scr dL_law_551 hX (by omega) hN ?_
  refine tt_sx6 hM dL_law_552 vL_72 rfl rfl hT6 rfl (by decide) (by show cc + 0 + 0 ≤ 600000; omega) (by show sc + 0 + 0 ≤ 7302250; omega) (fun h2 hI2 => ?_)
  exact tt_icmp_eq (tgt := 833) dL_law_555 (by decide) (fun _ => K h2 _ _ (LI_mono (by omega) (by omega) hI2) (by show cc + 0 + 0 ≤ cc + 2; omega) (by show sc + 0 + 0 ≤ sc + 18; omega)) (fun q => absurd rfl q)
set_option maxRecDepth 100000 in
set_option maxHeartbeats 4000000 in
theorem lw_c14 {h : zhp} {N : Nat} {X : Nat → Int32} {B i cc sc : Nat} (hI : LI h N X B) (hi : i + 5 ≤ N) (hN : N ≤ 2560) (hc : cc + 2 ≤ 600000) (hs : sc + 18 ≤ 7302250) (hB : B + 6100 ≤ 2 ^ 30) (K : ∀ (h2 : zhp) (c2 s2 : Nat), LI h2 N X (B + 6100) → c2 ≤ cc + 2 → s2 ≤ sc + 18 → TT iL_law 833 (lwL i) [] h2 c2 s2 lwQ) : TT iL_law 560 (lwL i) [] h cc sc lwQ := by
  have hT4 := LI_4 hI
  refine tt_aload_n dL_law_560 rfl ?_
  refine tt_aload_n dL_law_561 rfl ?_
  refine tt_iload_n dL_law_562 rfl ?_
  refine tt_iconst (nI 1) dL_law_563 rfl ?_
  refine tt_iaddN dL_law_564 ?_
  refine tt_scr dL_law_565 hI.1 (by omega) hN ?_
  refine tt_sx5 (st_untilFull hI (X (i + 1))) dL_law_566 vL_73 rfl rfl hT4 rfl (by decide) (by show cc + 0 ≤ 600000; omega) (by show sc + 0 ≤ 7302250; omega) (fun e h1 hX hT6 hM => ?_)
  refine tt_aload_n dL_law_569 rfl ?_
  refine tt_aload_n dL_law_570 rfl ?_
  refine tt_iload_n dL_law_571 rfl ?_
  refine tt_iconst (nI 1) dL_law_572 rfl ?_
  refine tt_iaddN dL_law_573 ?_
  refine tt_scr dL_law_574 hX (by omega) hN ?_
  refine tt_sx6 hM dL_law_575 vL_76 rfl rfl hT6 rfl (by decide) (by show cc + 0 + 0 ≤ 600000; omega) (by show sc + 0 + 0 ≤ 7302250; omega) (fun h2 hI2 => ?_)
  exact tt_icmp_eq (tgt := 833) dL_law_578 (by decide) (fun _ => K h2 _ _ (LI_mono (by omega) (by omega) hI2) (by show cc + 0 + 0 ≤ cc + 2; omega) (by show sc + 0 + 0 ≤ sc + 18; omega)) (fun q => absurd rfl q)
set_option maxRecDepth 100000 in
set_option maxHeartbeats 4000000 in
theorem lw_c15 {h : zhp} {N : Nat} {X : Nat → Int32} {B i cc sc : Nat} (hI : LI h N X B) (hi : i + 5 ≤ N) (hN : N ≤ 2560) (hc : cc + 2 ≤ 600000) (hs : sc + 18 ≤ 7302250) (hB : B + 6100 ≤ 2 ^ 30) (K : ∀ (h2 : zhp) (c2 s2 : Nat), LI h2 N X (B + 6100) → c2 ≤ cc + 2 → s2 ≤ sc + 18 → TT iL_law 833 (lwL i) [] h2 c2 s2 lwQ) : TT iL_law 583 (lwL i) [] h cc sc lwQ := by
  have hT4 := LI_4 hI
  refine tt_aload_n dL_law_583 rfl ?_
  refine tt_aload_n dL_law_584 rfl ?_
  refine tt_iload_n dL_law_585 rfl ?_
  refine tt_iconst (nI 1) dL_law_586 rfl ?_
  refine tt_iaddN dL_law_587 ?_
  refine tt_scr dL_law_588 hI.1 (by omega) hN ?_
  refine tt_sx5 (st_untilFine hI (X (i + 1))) dL_law_589 vL_77 rfl rfl hT4 rfl (by decide) (by show cc + 0 ≤ 600000; omega) (by show sc + 0 ≤ 7302250; omega) (fun e h1 hX hT6 hM => ?_)
  refine tt_aload_n dL_law_592 rfl ?_
  refine tt_aload_n dL_law_593 rfl ?_
  refine tt_iload_n dL_law_594 rfl ?_
  refine tt_iconst (nI 1) dL_law_595 rfl ?_
  refine tt_iaddN dL_law_596 ?_
  refine tt_scr dL_law_597 hX (by omega) hN ?_
  refine tt_sx6 hM dL_law_598 vL_80 rfl rfl hT6 rfl (by decide) (by show cc + 0 + 0 ≤ 600000; omega) (by show sc + 0 + 0 ≤ 7302250; omega) (fun h2 hI2 => ?_)
  exact tt_icmp_eq (tgt := 833) dL_law_601 (by decide) (fun _ => K h2 _ _ (LI_mono (by omega) (by omega) hI2) (by show cc + 0 + 0 ≤ cc + 2; omega) (by show sc + 0 + 0 ≤ sc + 18; omega)) (fun q => absurd rfl q)
set_option maxRecDepth 100000 in
set_option maxHeartbeats 4000000 in
theorem lw_c16 {h : zhp} {N : Nat} {X : Nat → Int32} {B i cc sc : Nat} (hI : LI h N X B) (hi : i + 5 ≤ N) (hN : N ≤ 2560) (hc : cc + 2 ≤ 600000) (hs : sc + 18 ≤ 7302250) (hB : B + 6100 ≤ 2 ^ 30) (K : ∀ (h2 : zhp) (c2 s2 : Nat), LI h2 N X (B + 6100) → c2 ≤ cc + 2 → s2 ≤ sc + 18 → TT iL_law 833 (lwL i) [] h2 c2 s2 lwQ) : TT iL_law 606 (lwL i) [] h cc sc lwQ := by
  have hT4 := LI_4 hI
  refine tt_aload_n dL_law_606 rfl ?_
  refine tt_aload_n dL_law_607 rfl ?_
  refine tt_iload_n dL_law_608 rfl ?_
  refine tt_iconst (nI 1) dL_law_609 rfl ?_
  refine tt_iaddN dL_law_610 ?_
  refine tt_scr dL_law_611 hI.1 (by omega) hN ?_
  refine tt_aload_n dL_law_612 rfl ?_
  refine tt_iload_n dL_law_613 rfl ?_
  refine tt_iconst (nI 2) dL_law_614 rfl ?_
  refine tt_iaddN dL_law_615 ?_
  refine tt_scr dL_law_616 hI.1 (by omega) hN ?_
  refine tt_sx5 (st_cost hI (X (i + 1)) (X (i + 2))) dL_law_617 vL_81 rfl rfl hT4 rfl (by decide) (by show cc + 0 ≤ 600000; omega) (by show sc + 0 ≤ 7302250; omega) (fun e h1 hX hT6 hM => ?_)
  refine tt_aload_n dL_law_620 rfl ?_
  refine tt_aload_n dL_law_621 rfl ?_
  refine tt_iload_n dL_law_622 rfl ?_
  refine tt_iconst (nI 1) dL_law_623 rfl ?_
  refine tt_iaddN dL_law_624 ?_
  refine tt_scr dL_law_625 hX (by omega) hN ?_
  refine tt_aload_n dL_law_626 rfl ?_
  refine tt_iload_n dL_law_627 rfl ?_
  refine tt_iconst (nI 2) dL_law_628 rfl ?_
  refine tt_iaddN dL_law_629 ?_
  refine tt_scr dL_law_630 hX (by omega) hN ?_
  refine tt_sx6 hM dL_law_631 vL_84 rfl rfl hT6 rfl (by decide) (by show cc + 0 + 0 ≤ 600000; omega) (by show sc + 0 + 0 ≤ 7302250; omega) (fun h2 hI2 => ?_)
  exact tt_icmp_eq (tgt := 833) dL_law_634 (by decide) (fun _ => K h2 _ _ (LI_mono (by omega) (by omega) hI2) (by show cc + 0 + 0 ≤ cc + 2; omega) (by show sc + 0 + 0 ≤ sc + 18; omega)) (fun q => absurd rfl q)
set_option maxRecDepth 100000 in
set_option maxHeartbeats 4000000 in
theorem lw_c17 {h : zhp} {N : Nat} {X : Nat → Int32} {B i cc sc : Nat} (hI : LI h N X B) (hi : i + 5 ≤ N) (hN : N ≤ 2560) (hc : cc + 2 ≤ 600000) (hs : sc + 18 ≤ 7302250) (hB : B + 6100 ≤ 2 ^ 30) (K : ∀ (h2 : zhp) (c2 s2 : Nat), LI h2 N X (B + 6100) → c2 ≤ cc + 2 → s2 ≤ sc + 18 → TT iL_law 833 (lwL i) [] h2 c2 s2 lwQ) : TT iL_law 639 (lwL i) [] h cc sc lwQ := by
  have hT4 := LI_4 hI
  refine tt_aload_n dL_law_639 rfl ?_
  refine tt_aload_n dL_law_640 rfl ?_
  refine tt_iload_n dL_law_641 rfl ?_
  refine tt_iconst (nI 1) dL_law_642 rfl ?_
  refine tt_iaddN dL_law_643 ?_
  refine tt_scr dL_law_644 hI.1 (by omega) hN ?_
  refine tt_aload_n dL_law_645 rfl ?_
  refine tt_iload_n dL_law_646 rfl ?_
  refine tt_iconst (nI 2) dL_law_647 rfl ?_
  refine tt_iaddN dL_law_648 ?_
  refine tt_scr dL_law_649 hI.1 (by omega) hN ?_
  refine tt_aload_n dL_law_650 rfl ?_
  refine tt_iload_n dL_law_651 rfl ?_
  refine tt_iconst (nI 3) dL_law_652 rfl ?_
  refine tt_iaddN dL_law_653 ?_
  refine tt_scr dL_law_654 hI.1 (by omega) hN ?_
  refine tt_sx5 (st_bestSwap hI (X (i + 1)) (X (i + 2)) (X (i + 3))) dL_law_655 vL_85 rfl rfl hT4 rfl (by decide) (by show cc + 0 ≤ 600000; omega) (by show sc + 0 ≤ 7302250; omega) (fun e h1 hX hT6 hM => ?_)
  refine tt_aload_n dL_law_658 rfl ?_
  refine tt_aload_n dL_law_659 rfl ?_
  refine tt_iload_n dL_law_660 rfl ?_
  refine tt_iconst (nI 1) dL_law_661 rfl ?_
  refine tt_iaddN dL_law_662 ?_
  refine tt_scr dL_law_663 hX (by omega) hN ?_
  refine tt_aload_n dL_law_664 rfl ?_
  refine tt_iload_n dL_law_665 rfl ?_
  refine tt_iconst (nI 2) dL_law_666 rfl ?_
  refine tt_iaddN dL_law_667 ?_
  refine tt_scr dL_law_668 hX (by omega) hN ?_
  refine tt_aload_n dL_law_669 rfl ?_
  refine tt_iload_n dL_law_670 rfl ?_
  refine tt_iconst (nI 3) dL_law_671 rfl ?_
  refine tt_iaddN dL_law_672 ?_
  refine tt_scr dL_law_673 hX (by omega) hN ?_
  refine tt_sx6 hM dL_law_674 vL_89 rfl rfl hT6 rfl (by decide) (by show cc + 0 + 0 ≤ 600000; omega) (by show sc + 0 + 0 ≤ 7302250; omega) (fun h2 hI2 => ?_)
  exact tt_icmp_eq (tgt := 833) dL_law_677 (by decide) (fun _ => K h2 _ _ (LI_mono (by omega) (by omega) hI2) (by show cc + 0 + 0 ≤ cc + 2; omega) (by show sc + 0 + 0 ≤ sc + 18; omega)) (fun q => absurd rfl q)
set_option maxRecDepth 100000 in
set_option maxHeartbeats 4000000 in
theorem lw_c18 {h : zhp} {N : Nat} {X : Nat → Int32} {B i cc sc : Nat} (hI : LI h N X B) (hi : i + 5 ≤ N) (hN : N ≤ 2560) (hc : cc + 2 ≤ 600000) (hs : sc + 18 ≤ 7302250) (hB : B + 6100 ≤ 2 ^ 30) (K : ∀ (h2 : zhp) (c2 s2 : Nat), LI h2 N X (B + 6100) → c2 ≤ cc + 2 → s2 ≤ sc + 18 → TT iL_law 833 (lwL i) [] h2 c2 s2 lwQ) : TT iL_law 682 (lwL i) [] h cc sc lwQ := by
  have hT4 := LI_4 hI
  refine tt_aload_n dL_law_682 rfl ?_
  refine tt_sx5 (st_dearest hI ) dL_law_683 vL_90 rfl rfl hT4 rfl (by decide) (by show cc + 0 ≤ 600000; omega) (by show sc + 0 ≤ 7302250; omega) (fun e h1 hX hT6 hM => ?_)
  refine tt_aload_n dL_law_686 rfl ?_
  refine tt_sx6 hM dL_law_687 vL_93 rfl rfl hT6 rfl (by decide) (by show cc + 0 + 0 ≤ 600000; omega) (by show sc + 0 + 0 ≤ 7302250; omega) (fun h2 hI2 => ?_)
  exact tt_icmp_eq (tgt := 833) dL_law_690 (by decide) (fun _ => K h2 _ _ (LI_mono (by omega) (by omega) hI2) (by show cc + 0 + 0 ≤ cc + 2; omega) (by show sc + 0 + 0 ≤ sc + 18; omega)) (fun q => absurd rfl q)
set_option maxRecDepth 100000 in
set_option maxHeartbeats 4000000 in
theorem lw_c19 {h : zhp} {N : Nat} {X : Nat → Int32} {B i cc sc : Nat} (hI : LI h N X B) (hi : i + 5 ≤ N) (hN : N ≤ 2560) (hc : cc + 2 ≤ 600000) (hs : sc + 18 ≤ 7302250) (hB : B + 6100 ≤ 2 ^ 30) (K : ∀ (h2 : zhp) (c2 s2 : Nat), LI h2 N X (B + 6100) → c2 ≤ cc + 2 → s2 ≤ sc + 18 → TT iL_law 833 (lwL i) [] h2 c2 s2 lwQ) : TT iL_law 695 (lwL i) [] h cc sc lwQ := by
  have hT4 := LI_4 hI
  refine tt_aload_n dL_law_695 rfl ?_
  refine tt_aload_n dL_law_696 rfl ?_
  refine tt_iload_n dL_law_697 rfl ?_
  refine tt_iconst (nI 1) dL_law_698 rfl ?_
  refine tt_iaddN dL_law_699 ?_
  refine tt_scr dL_law_700 hI.1 (by omega) hN ?_
  refine tt_i2l dL_law_701 ?_
  refine tt_bipush (nI 32) dL_law_702 rfl ?_
  refine tt_lshl dL_law_704 ?_
  refine tt_aload_n dL_law_705 rfl ?_
  refine tt_iload_n dL_law_706 rfl ?_
  refine tt_iconst (nI 2) dL_law_707 rfl ?_
  refine tt_iaddN dL_law_708 ?_
  refine tt_scr dL_law_709 hI.1 (by omega) hN ?_
  refine tt_i2l dL_law_710 ?_
  refine tt_ldc2 dL_law_711 lL_94 ?_
  refine tt_land dL_law_714 ?_
  refine tt_lor dL_law_715 ?_
  refine tt_sx5 (st_write hI _) dL_law_716 vL_96 rfl rfl hT4 rfl (by decide) (by show cc + 0 ≤ 600000; omega) (by show sc + 0 ≤ 7302250; omega) (fun e h1 hX hT6 hM => ?_)
  refine tt_aload_n dL_law_719 rfl ?_
  refine tt_aload_n dL_law_720 rfl ?_
  refine tt_iload_n dL_law_721 rfl ?_
  refine tt_iconst (nI 1) dL_law_722 rfl ?_
  refine tt_iaddN dL_law_723 ?_
  refine tt_scr dL_law_724 hX (by omega) hN ?_
  refine tt_i2l dL_law_725 ?_
  refine tt_bipush (nI 32) dL_law_726 rfl ?_
  refine tt_lshl dL_law_728 ?_
  refine tt_aload_n dL_law_729 rfl ?_
  refine tt_iload_n dL_law_730 rfl ?_
  refine tt_iconst (nI 2) dL_law_731 rfl ?_
  refine tt_iaddN dL_law_732 ?_
  refine tt_scr dL_law_733 hX (by omega) hN ?_
  refine tt_i2l dL_law_734 ?_
  refine tt_ldc2 dL_law_735 lL_94 ?_
  refine tt_land dL_law_738 ?_
  refine tt_lor dL_law_739 ?_
  refine tt_sx6 hM dL_law_740 vL_100 rfl rfl hT6 rfl (by decide) (by show cc + 0 + 0 ≤ 600000; omega) (by show sc + 0 + 0 ≤ 7302250; omega) (fun h2 hI2 => ?_)
  exact tt_icmp_eq (tgt := 833) dL_law_743 (by decide) (fun _ => K h2 _ _ (LI_mono (by omega) (by omega) hI2) (by show cc + 0 + 0 ≤ cc + 2; omega) (by show sc + 0 + 0 ≤ sc + 18; omega)) (fun q => absurd rfl q)
set_option maxRecDepth 100000 in
set_option maxHeartbeats 4000000 in
theorem lw_c20 {h : zhp} {N : Nat} {X : Nat → Int32} {B i cc sc : Nat} (hI : LI h N X B) (hi : i + 5 ≤ N) (hN : N ≤ 2560) (hc : cc + 2 ≤ 600000) (hs : sc + 18 ≤ 7302250) (hB : B + 6100 ≤ 2 ^ 30) (K : ∀ (h2 : zhp) (c2 s2 : Nat), LI h2 N X (B + 6100) → c2 ≤ cc + 2 → s2 ≤ sc + 18 → TT iL_law 833 (lwL i) [] h2 c2 s2 lwQ) : TT iL_law 748 (lwL i) [] h cc sc lwQ := by
  have hT4 := LI_4 hI
  refine tt_aload_n dL_law_748 rfl ?_
  refine tt_sx5 (st_wipe hI ) dL_law_749 vL_101 rfl rfl hT4 rfl (by decide) (by show cc + 0 ≤ 600000; omega) (by show sc + 0 ≤ 7302250; omega) (fun e h1 hX hT6 hM => ?_)
  refine tt_aload_n dL_law_752 rfl ?_
  refine tt_sx6 hM dL_law_753 vL_104 rfl rfl hT6 rfl (by decide) (by show cc + 0 + 0 ≤ 600000; omega) (by show sc + 0 + 0 ≤ 7302250; omega) (fun h2 hI2 => ?_)
  exact tt_icmp_eq (tgt := 833) dL_law_756 (by decide) (fun _ => K h2 _ _ (LI_mono (by omega) (by omega) hI2) (by show cc + 0 + 0 ≤ cc + 2; omega) (by show sc + 0 + 0 ≤ sc + 18; omega)) (fun q => absurd rfl q)
set_option maxRecDepth 100000 in
set_option maxHeartbeats 4000000 in
theorem lw_c21 {h : zhp} {N : Nat} {X : Nat → Int32} {B i cc sc : Nat} (hI : LI h N X B) (hi : i + 5 ≤ N) (hN : N ≤ 2560) (hc : cc + 2 ≤ 600000) (hs : sc + 18 ≤ 7302250) (hB : B + 6100 ≤ 2 ^ 30) (K : ∀ (h2 : zhp) (c2 s2 : Nat), LI h2 N X (B + 6100) → c2 ≤ cc + 2 → s2 ≤ sc + 18 → TT iL_law 833 (lwL i) [] h2 c2 s2 lwQ) : TT iL_law 761 (lwL i) [] h cc sc lwQ := by
  have hT4 := LI_4 hI
  refine tt_aload_n dL_law_761 rfl ?_
  refine tt_sx5 (st_fault hI ) dL_law_762 vL_105 rfl rfl hT4 rfl (by decide) (by show cc + 1 ≤ 600000; omega) (by show sc + 9 ≤ 7302250; omega) (fun e h1 hX hT6 hM => ?_)
  refine tt_aload_n dL_law_765 rfl ?_
  refine tt_sx6 hM dL_law_766 vL_108 rfl rfl hT6 rfl (by decide) (by show cc + 1 + 0 ≤ 600000; omega) (by show sc + 9 + 0 ≤ 7302250; omega) (fun h2 hI2 => ?_)
  exact tt_icmp_eq (tgt := 833) dL_law_769 (by decide) (fun _ => K h2 _ _ (LI_mono (by omega) (by omega) hI2) (by show cc + 1 + 0 ≤ cc + 2; omega) (by show sc + 9 + 0 ≤ sc + 18; omega)) (fun q => absurd rfl q)
set_option maxRecDepth 100000 in
set_option maxHeartbeats 4000000 in
theorem lw_c22 {h : zhp} {N : Nat} {X : Nat → Int32} {B i cc sc : Nat} (hI : LI h N X B) (hi : i + 5 ≤ N) (hN : N ≤ 2560) (hc : cc + 2 ≤ 600000) (hs : sc + 18 ≤ 7302250) (hB : B + 6100 ≤ 2 ^ 30) (K : ∀ (h2 : zhp) (c2 s2 : Nat), LI h2 N X (B + 6100) → c2 ≤ cc + 2 → s2 ≤ sc + 18 → TT iL_law 833 (lwL i) [] h2 c2 s2 lwQ) : TT iL_law 774 (lwL i) [] h cc sc lwQ := by
  have hT4 := LI_4 hI
  refine tt_aload_n dL_law_774 rfl ?_
  refine tt_sx5 (st_undo hI ) dL_law_775 vL_109 rfl rfl hT4 rfl (by decide) (by show cc + 0 ≤ 600000; omega) (by show sc + 0 ≤ 7302250; omega) (fun e h1 hX hT6 hM => ?_)
  refine tt_aload_n dL_law_778 rfl ?_
  refine tt_sx6 hM dL_law_779 vL_112 rfl rfl hT6 rfl (by decide) (by show cc + 0 + 0 ≤ 600000; omega) (by show sc + 0 + 0 ≤ 7302250; omega) (fun h2 hI2 => ?_)
  exact tt_icmp_eq (tgt := 833) dL_law_782 (by decide) (fun _ => K h2 _ _ (LI_mono (by omega) (by omega) hI2) (by show cc + 0 + 0 ≤ cc + 2; omega) (by show sc + 0 + 0 ≤ sc + 18; omega)) (fun q => absurd rfl q)
set_option maxRecDepth 100000 in
set_option maxHeartbeats 4000000 in
theorem lw_c23 {h : zhp} {N : Nat} {X : Nat → Int32} {B i cc sc : Nat} (hI : LI h N X B) (hi : i + 5 ≤ N) (hN : N ≤ 2560) (hc : cc + 2 ≤ 600000) (hs : sc + 18 ≤ 7302250) (hB : B + 6100 ≤ 2 ^ 30) (K : ∀ (h2 : zhp) (c2 s2 : Nat), LI h2 N X (B + 6100) → c2 ≤ cc + 2 → s2 ≤ sc + 18 → TT iL_law 833 (lwL i) [] h2 c2 s2 lwQ) : TT iL_law 787 (lwL i) [] h cc sc lwQ := by
  have hT4 := LI_4 hI
  refine tt_aload_n dL_law_787 rfl ?_
  refine tt_aload_n dL_law_788 rfl ?_
  refine tt_iload_n dL_law_789 rfl ?_
  refine tt_iconst (nI 1) dL_law_790 rfl ?_
  refine tt_iaddN dL_law_791 ?_
  refine tt_scr dL_law_792 hI.1 (by omega) hN ?_
  refine tt_sx5 (st_save hI (X (i + 1))) dL_law_793 vL_113 rfl rfl hT4 rfl (by decide) (by show cc + 0 ≤ 600000; omega) (by show sc + 0 ≤ 7302250; omega) (fun e h1 hX hT6 hM => ?_)
  refine tt_aload_n dL_law_796 rfl ?_
  refine tt_aload_n dL_law_797 rfl ?_
  refine tt_iload_n dL_law_798 rfl ?_
  refine tt_iconst (nI 1) dL_law_799 rfl ?_
  refine tt_iaddN dL_law_800 ?_
  refine tt_scr dL_law_801 hX (by omega) hN ?_
  refine tt_sx6 hM dL_law_802 vL_116 rfl rfl hT6 rfl (by decide) (by show cc + 0 + 0 ≤ 600000; omega) (by show sc + 0 + 0 ≤ 7302250; omega) (fun h2 hI2 => ?_)
  exact tt_icmp_eq (tgt := 833) dL_law_805 (by decide) (fun _ => K h2 _ _ (LI_mono (by omega) (by omega) hI2) (by show cc + 0 + 0 ≤ cc + 2; omega) (by show sc + 0 + 0 ≤ sc + 18; omega)) (fun q => absurd rfl q)
set_option maxRecDepth 100000 in
set_option maxHeartbeats 4000000 in
theorem lw_c24 {h : zhp} {N : Nat} {X : Nat → Int32} {B i cc sc : Nat} (hI : LI h N X B) (hi : i + 5 ≤ N) (hN : N ≤ 2560) (hc : cc + 2 ≤ 600000) (hs : sc + 18 ≤ 7302250) (hB : B + 6100 ≤ 2 ^ 30) (K : ∀ (h2 : zhp) (c2 s2 : Nat), LI h2 N X (B + 6100) → c2 ≤ cc + 2 → s2 ≤ sc + 18 → TT iL_law 833 (lwL i) [] h2 c2 s2 lwQ) : TT iL_law 810 (lwL i) [] h cc sc lwQ := by
  have hT4 := LI_4 hI
  refine tt_aload_n dL_law_810 rfl ?_
  refine tt_aload_n dL_law_811 rfl ?_
  refine tt_iload_n dL_law_812 rfl ?_
  refine tt_iconst (nI 1) dL_law_813 rfl ?_
  refine tt_iaddN dL_law_814 ?_
  refine tt_scr dL_law_815 hI.1 (by omega) hN ?_
  refine tt_sx5 (st_restore hI (X (i + 1))) dL_law_816 vL_117 rfl rfl hT4 rfl (by decide) (by show cc + 0 ≤ 600000; omega) (by show sc + 0 ≤ 7302250; omega) (fun e h1 hX hT6 hM => ?_)
  refine tt_aload_n dL_law_819 rfl ?_
  refine tt_aload_n dL_law_820 rfl ?_
  refine tt_iload_n dL_law_821 rfl ?_
  refine tt_iconst (nI 1) dL_law_822 rfl ?_
  refine tt_iaddN dL_law_823 ?_
  refine tt_scr dL_law_824 hX (by omega) hN ?_
  refine tt_sx6 hM dL_law_825 vL_120 rfl rfl hT6 rfl (by decide) (by show cc + 0 + 0 ≤ 600000; omega) (by show sc + 0 + 0 ≤ 7302250; omega) (fun h2 hI2 => ?_)
  exact tt_icmp_eq (tgt := 833) dL_law_828 (by decide) (fun _ => K h2 _ _ (LI_mono (by omega) (by omega) hI2) (by show cc + 0 + 0 ≤ cc + 2; omega) (by show sc + 0 + 0 ≤ sc + 18; omega)) (fun q => absurd rfl q)
