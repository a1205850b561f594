/-! THE LAW'S BODY -/
theorem rst_q0 : rst q0 := ⟨rfl, rfl, fun _ _ => rfl, fun _ => (show (-1000000000000 : Int) ≤ 0 ∧ (0 : Int) ≤ 1000000000000 by decide), fun _ _ => (show (-1000000000000 : Int) ≤ 0 ∧ (0 : Int) ≤ 1000000000000 by decide), fun _ => (show (-1000000000000 : Int) ≤ 0 ∧ (0 : Int) ≤ 1000000000000 by decide), (show (0 : Nat) < 100 by decide), (show (-1000000000000 : Int) ≤ 0 ∧ (0 : Int) ≤ 1000000000000 by decide), (show (0 : Nat) < 1000 by decide), fun _ => (show (0 : Nat) < 14 by decide)⟩
theorem z_m {b : Int} (h : 0 ≤ b) : (0 : Int) ≤ 0 ∧ (0 : Int) ≤ b := ⟨Int.le_refl 0, h⟩
theorem inv_0 {n : Nat} (h1 : 1 ≤ n) (h2 : n ≤ 6) : INV (A0 n) q0 := by
  refine ⟨⟨⟨⟨h2, (show (0 : Nat) ≤ 12 by decide), (show (0 : Nat) ≤ 14 by decide), fun _ => (show (0 : Nat) < 12 by decide), fun _ => (show (0 : Nat) < 6 by decide), fun _ => (show (0 : Nat) < 4 by decide), fun _ => (show (0 : Nat) < 16384 by decide), fun _ => z_m (by decide), fun _ => z_m (by decide), fun _ _ => z_m (by decide), fun _ => z_m (by decide), fun _ => (show (0 : Nat) ≤ 999 by decide), (show (0 : Nat) < 16384 by decide), h1⟩, fun c o h => ?_, fun _ _ => rfl, (show (-1 : Int) ≤ -1 ∧ (-1 : Int) ≤ 10000000 by decide), (show (0 : Nat) < 2 ^ 0 by decide)⟩, ⟨(show (0 : Nat) ≤ 20 by decide), fun _ => (show (0 : Nat) < 14 by decide), fun _ => (show (0 : Nat) < 14 by decide), fun _ => z_m (by decide)⟩, ⟨fun k hk => ?_, fun u v => ?_, fun u v => ?_⟩, fun c hc => ?_, fun m hm => ?_, (show (0 : Nat) < 2 ^ 0 by decide), fun _ => (show (0 : Int) ≤ 100000000 by decide), fun _ _ => rfl⟩, rst_q0, fun h => ?_, fun h => ?_⟩
  · have h3 : (0 : Nat).testBit o = true := h
    simp at h3
  · have h3 : k < 0 := hk
    omega
  · show (0 : Nat).testBit v = jex (A0 n) u v 0
    simp [jex]
  · show (if (0 : Nat).testBit v = true then _ else _) = sm 0 _
    simp [sm]
  · have h3 : c < 0 := hc
    omega
  · cases hm
  · cases h
  · cases h
def c0v (sc : am_S) : Int32 := if 0 < sc.1 then sc.2 0 else 0
def lg (sc : am_S) (a b : Nat) : Int64 := ((sc.2 a).toInt64 <<< ((32 : Int32).toInt64 &&& 63)) ||| ((sc.2 b).toInt64 &&& lZ 4294967295)
section AML
variable {sc : am_S} {M : am_M} {d pc : Nat} {L : List (Option Value)} {st : List Value} {h : List am_C} {r : Option Value} {h' : List am_C}
theorem aw_sldN {j : Nat} (hd : decode M.2.1 pc = .ok (.iaload, 1)) (hj : j < sc.1) (hs : sc.1 ≤ 3585) (kk : AW sc M d (pc + 1) L (.int (sc.2 j) :: st) h r h') : AW sc M d pc L (.int (nI j) :: .ref 0 :: st) h r h' := by
  refine aw_sld hd (vp_in_nI hj (by omega)) ?_
  rw [nI_clamp (by omega)]
  exact kk
end AML
theorem lw_thing (sc : am_S) (hs : sc.1 ≤ 3585) (A : ST) (q : QS) (t : TS) (i : INV A q) (j : Nat) (hj : j + 7 ≤ sc.1) (ih : ∀ (A2 : ST) (q2 : QS) (t2 : TS), INV A2 q2 → ∃ (A3 : ST) (q3 : QS) (t3 : TS), AW sc m_L_law 60 1065 [some (.ref 0), some (.ref 1), some (.ref 50), some (.int (nI j))] [] (hp A2 q2 A2 t2) (some (.int 1)) (hp A3 q3 A3 t3)) : ∃ (A3 : ST) (q3 : QS) (t3 : TS), AW sc m_L_law 60 156 [some (.ref 0), some (.ref 1), some (.ref 50), some (.int (nI j))] [] (hp A q A t) (some (.int 1)) (hp A3 q3 A3 t3) := by
  obtain ⟨v, A1, q1, A2, q2, t2, g1, g2, i2⟩ := p_thing sc (sc.2 (j + 1)) i t
  obtain ⟨A3, q3, t3, g⟩ := ih A2 q2 t2 i2
  refine ⟨A3, q3, t3, ?_⟩
  refine aw_aload_n 1 q_L_law_156 rfl rfl ?_
  refine aw_aload_n 0 q_L_law_157 rfl rfl ?_
  refine aw_iload_n 3 q_L_law_158 rfl rfl ?_
  refine aw_iconst 1 q_L_law_159 rfl ?_
  refine aw_iadd q_L_law_160 ?_
  rw [show nI j + 1 = nI (j + 1) from nI_add j 1]
  refine aw_sldN q_L_law_161 (by omega) hs ?_
  refine aw_V1 q_L_law_162 st_L_21 rfl (by omega) (Nat.le_of_ble_eq_true rfl) g1 ?_
  refine aw_aload_n 2 q_L_law_165 rfl rfl ?_
  refine aw_aload_n 0 q_L_law_166 rfl rfl ?_
  refine aw_iload_n 3 q_L_law_167 rfl rfl ?_
  refine aw_iconst 1 q_L_law_168 rfl ?_
  refine aw_iadd q_L_law_169 ?_
  rw [show nI j + 1 = nI (j + 1) from nI_add j 1]
  refine aw_sldN q_L_law_170 (by omega) hs ?_
  refine aw_V1 q_L_law_171 st_L_25 rfl (by omega) (Nat.le_of_ble_eq_true rfl) g2 ?_
  refine aw_icmp_eq 1065 q_L_law_174 rfl (fun c174 => ?_) (fun c174 => ?_)
  · skip
    exact g
  · skip
    exact absurd rfl c174
theorem lw_choice (sc : am_S) (hs : sc.1 ≤ 3585) (A : ST) (q : QS) (t : TS) (i : INV A q) (j : Nat) (hj : j + 7 ≤ sc.1) (ih : ∀ (A2 : ST) (q2 : QS) (t2 : TS), INV A2 q2 → ∃ (A3 : ST) (q3 : QS) (t3 : TS), AW sc m_L_law 60 1065 [some (.ref 0), some (.ref 1), some (.ref 50), some (.int (nI j))] [] (hp A2 q2 A2 t2) (some (.int 1)) (hp A3 q3 A3 t3)) : ∃ (A3 : ST) (q3 : QS) (t3 : TS), AW sc m_L_law 60 179 [some (.ref 0), some (.ref 1), some (.ref 50), some (.int (nI j))] [] (hp A q A t) (some (.int 1)) (hp A3 q3 A3 t3) := by
  obtain ⟨v, A1, q1, A2, q2, t2, g1, g2, i2⟩ := p_choice sc (sc.2 (j + 1)) (sc.2 (j + 2)) (lg sc (j + 3) (j + 4)) (lg sc (j + 5) (j + 6)) i t
  obtain ⟨A3, q3, t3, g⟩ := ih A2 q2 t2 i2
  refine ⟨A3, q3, t3, ?_⟩
  refine aw_aload_n 1 q_L_law_179 rfl rfl ?_
  refine aw_aload_n 0 q_L_law_180 rfl rfl ?_
  refine aw_iload_n 3 q_L_law_181 rfl rfl ?_
  refine aw_iconst 1 q_L_law_182 rfl ?_
  refine aw_iadd q_L_law_183 ?_
  rw [show nI j + 1 = nI (j + 1) from nI_add j 1]
  refine aw_sldN q_L_law_184 (by omega) hs ?_
  refine aw_aload_n 0 q_L_law_185 rfl rfl ?_
  refine aw_iload_n 3 q_L_law_186 rfl rfl ?_
  refine aw_iconst 2 q_L_law_187 rfl ?_
  refine aw_iadd q_L_law_188 ?_
  rw [show nI j + 2 = nI (j + 2) from nI_add j 2]
  refine aw_sldN q_L_law_189 (by omega) hs ?_
  refine aw_aload_n 0 q_L_law_190 rfl rfl ?_
  refine aw_iload_n 3 q_L_law_191 rfl rfl ?_
  refine aw_iconst 3 q_L_law_192 rfl ?_
  refine aw_iadd q_L_law_193 ?_
  rw [show nI j + 3 = nI (j + 3) from nI_add j 3]
  refine aw_sldN q_L_law_194 (by omega) hs ?_
  refine aw_i2l q_L_law_195 ?_
  refine aw_bipush 32 q_L_law_196 rfl ?_
  refine aw_lshl q_L_law_198 ?_
  refine aw_aload_n 0 q_L_law_199 rfl rfl ?_
  refine aw_iload_n 3 q_L_law_200 rfl rfl ?_
  refine aw_iconst 4 q_L_law_201 rfl ?_
  refine aw_iadd q_L_law_202 ?_
  rw [show nI j + 4 = nI (j + 4) from nI_add j 4]
  refine aw_sldN q_L_law_203 (by omega) hs ?_
  refine aw_i2l q_L_law_204 ?_
  refine aw_ldc2 (lZ (4294967295)) q_L_law_205 (am_in4 (i := 152) rfl rfl) ?_
  refine aw_land q_L_law_208 ?_
  refine aw_lor q_L_law_209 ?_
  refine aw_aload_n 0 q_L_law_210 rfl rfl ?_
  refine aw_iload_n 3 q_L_law_211 rfl rfl ?_
  refine aw_iconst 5 q_L_law_212 rfl ?_
  refine aw_iadd q_L_law_213 ?_
  rw [show nI j + 5 = nI (j + 5) from nI_add j 5]
  refine aw_sldN q_L_law_214 (by omega) hs ?_
  refine aw_i2l q_L_law_215 ?_
  refine aw_bipush 32 q_L_law_216 rfl ?_
  refine aw_lshl q_L_law_218 ?_
  refine aw_aload_n 0 q_L_law_219 rfl rfl ?_
  refine aw_iload_n 3 q_L_law_220 rfl rfl ?_
  refine aw_bipush 6 q_L_law_221 rfl ?_
  refine aw_iadd q_L_law_223 ?_
  rw [show nI j + 6 = nI (j + 6) from nI_add j 6]
  refine aw_sldN q_L_law_224 (by omega) hs ?_
  refine aw_i2l q_L_law_225 ?_
  refine aw_ldc2 (lZ (4294967295)) q_L_law_226 (am_in4 (i := 152) rfl rfl) ?_
  refine aw_land q_L_law_229 ?_
  refine aw_lor q_L_law_230 ?_
  refine aw_V4 q_L_law_231 st_L_28 rfl (by omega) (Nat.le_of_ble_eq_true rfl) g1 ?_
  refine aw_aload_n 2 q_L_law_234 rfl rfl ?_
  refine aw_aload_n 0 q_L_law_235 rfl rfl ?_
  refine aw_iload_n 3 q_L_law_236 rfl rfl ?_
  refine aw_iconst 1 q_L_law_237 rfl ?_
  refine aw_iadd q_L_law_238 ?_
  rw [show nI j + 1 = nI (j + 1) from nI_add j 1]
  refine aw_sldN q_L_law_239 (by omega) hs ?_
  refine aw_aload_n 0 q_L_law_240 rfl rfl ?_
  refine aw_iload_n 3 q_L_law_241 rfl rfl ?_
  refine aw_iconst 2 q_L_law_242 rfl ?_
  refine aw_iadd q_L_law_243 ?_
  rw [show nI j + 2 = nI (j + 2) from nI_add j 2]
  refine aw_sldN q_L_law_244 (by omega) hs ?_
  refine aw_aload_n 0 q_L_law_245 rfl rfl ?_
  refine aw_iload_n 3 q_L_law_246 rfl rfl ?_
  refine aw_iconst 3 q_L_law_247 rfl ?_
  refine aw_iadd q_L_law_248 ?_
  rw [show nI j + 3 = nI (j + 3) from nI_add j 3]
  refine aw_sldN q_L_law_249 (by omega) hs ?_
  refine aw_i2l q_L_law_250 ?_
  refine aw_bipush 32 q_L_law_251 rfl ?_
  refine aw_lshl q_L_law_253 ?_
  refine aw_aload_n 0 q_L_law_254 rfl rfl ?_
  refine aw_iload_n 3 q_L_law_255 rfl rfl ?_
  refine aw_iconst 4 q_L_law_256 rfl ?_
  refine aw_iadd q_L_law_257 ?_
  rw [show nI j + 4 = nI (j + 4) from nI_add j 4]
  refine aw_sldN q_L_law_258 (by omega) hs ?_
  refine aw_i2l q_L_law_259 ?_
  refine aw_ldc2 (lZ (4294967295)) q_L_law_260 (am_in4 (i := 152) rfl rfl) ?_
  refine aw_land q_L_law_263 ?_
  refine aw_lor q_L_law_264 ?_
  refine aw_aload_n 0 q_L_law_265 rfl rfl ?_
  refine aw_iload_n 3 q_L_law_266 rfl rfl ?_
  refine aw_iconst 5 q_L_law_267 rfl ?_
  refine aw_iadd q_L_law_268 ?_
  rw [show nI j + 5 = nI (j + 5) from nI_add j 5]
  refine aw_sldN q_L_law_269 (by omega) hs ?_
  refine aw_i2l q_L_law_270 ?_
  refine aw_bipush 32 q_L_law_271 rfl ?_
  refine aw_lshl q_L_law_273 ?_
  refine aw_aload_n 0 q_L_law_274 rfl rfl ?_
  refine aw_iload_n 3 q_L_law_275 rfl rfl ?_
  refine aw_bipush 6 q_L_law_276 rfl ?_
  refine aw_iadd q_L_law_278 ?_
  rw [show nI j + 6 = nI (j + 6) from nI_add j 6]
  refine aw_sldN q_L_law_279 (by omega) hs ?_
  refine aw_i2l q_L_law_280 ?_
  refine aw_ldc2 (lZ (4294967295)) q_L_law_281 (am_in4 (i := 152) rfl rfl) ?_
  refine aw_land q_L_law_284 ?_
  refine aw_lor q_L_law_285 ?_
  refine aw_V4 q_L_law_286 st_L_32 rfl (by omega) (Nat.le_of_ble_eq_true rfl) g2 ?_
  refine aw_icmp_eq 1065 q_L_law_289 rfl (fun c289 => ?_) (fun c289 => ?_)
  · skip
    exact g
  · skip
    exact absurd rfl c289
theorem lw_must (sc : am_S) (hs : sc.1 ≤ 3585) (A : ST) (q : QS) (t : TS) (i : INV A q) (j : Nat) (hj : j + 7 ≤ sc.1) (ih : ∀ (A2 : ST) (q2 : QS) (t2 : TS), INV A2 q2 → ∃ (A3 : ST) (q3 : QS) (t3 : TS), AW sc m_L_law 60 1065 [some (.ref 0), some (.ref 1), some (.ref 50), some (.int (nI j))] [] (hp A2 q2 A2 t2) (some (.int 1)) (hp A3 q3 A3 t3)) : ∃ (A3 : ST) (q3 : QS) (t3 : TS), AW sc m_L_law 60 294 [some (.ref 0), some (.ref 1), some (.ref 50), some (.int (nI j))] [] (hp A q A t) (some (.int 1)) (hp A3 q3 A3 t3) := by
  obtain ⟨v, A1, q1, A2, q2, t2, g1, g2, i2⟩ := p_must sc (sc.2 (j + 1)) i t
  obtain ⟨A3, q3, t3, g⟩ := ih A2 q2 t2 i2
  refine ⟨A3, q3, t3, ?_⟩
  refine aw_aload_n 1 q_L_law_294 rfl rfl ?_
  refine aw_aload_n 0 q_L_law_295 rfl rfl ?_
  refine aw_iload_n 3 q_L_law_296 rfl rfl ?_
  refine aw_iconst 1 q_L_law_297 rfl ?_
  refine aw_iadd q_L_law_298 ?_
  rw [show nI j + 1 = nI (j + 1) from nI_add j 1]
  refine aw_sldN q_L_law_299 (by omega) hs ?_
  refine aw_V1 q_L_law_300 st_L_33 rfl (by omega) (Nat.le_of_ble_eq_true rfl) g1 ?_
  refine aw_aload_n 2 q_L_law_303 rfl rfl ?_
  refine aw_aload_n 0 q_L_law_304 rfl rfl ?_
  refine aw_iload_n 3 q_L_law_305 rfl rfl ?_
  refine aw_iconst 1 q_L_law_306 rfl ?_
  refine aw_iadd q_L_law_307 ?_
  rw [show nI j + 1 = nI (j + 1) from nI_add j 1]
  refine aw_sldN q_L_law_308 (by omega) hs ?_
  refine aw_V1 q_L_law_309 st_L_37 rfl (by omega) (Nat.le_of_ble_eq_true rfl) g2 ?_
  refine aw_icmp_eq 1065 q_L_law_312 rfl (fun c312 => ?_) (fun c312 => ?_)
  · skip
    exact g
  · skip
    exact absurd rfl c312
theorem lw_budget (sc : am_S) (hs : sc.1 ≤ 3585) (A : ST) (q : QS) (t : TS) (i : INV A q) (j : Nat) (hj : j + 7 ≤ sc.1) (ih : ∀ (A2 : ST) (q2 : QS) (t2 : TS), INV A2 q2 → ∃ (A3 : ST) (q3 : QS) (t3 : TS), AW sc m_L_law 60 1065 [some (.ref 0), some (.ref 1), some (.ref 50), some (.int (nI j))] [] (hp A2 q2 A2 t2) (some (.int 1)) (hp A3 q3 A3 t3)) : ∃ (A3 : ST) (q3 : QS) (t3 : TS), AW sc m_L_law 60 317 [some (.ref 0), some (.ref 1), some (.ref 50), some (.int (nI j))] [] (hp A q A t) (some (.int 1)) (hp A3 q3 A3 t3) := by
  obtain ⟨v, A1, q1, A2, q2, t2, g1, g2, i2⟩ := p_budget sc (sc.2 (j + 1)) (lg sc (j + 2) (j + 3)) i t
  obtain ⟨A3, q3, t3, g⟩ := ih A2 q2 t2 i2
  refine ⟨A3, q3, t3, ?_⟩
  refine aw_aload_n 1 q_L_law_317 rfl rfl ?_
  refine aw_aload_n 0 q_L_law_318 rfl rfl ?_
  refine aw_iload_n 3 q_L_law_319 rfl rfl ?_
  refine aw_iconst 1 q_L_law_320 rfl ?_
  refine aw_iadd q_L_law_321 ?_
  rw [show nI j + 1 = nI (j + 1) from nI_add j 1]
  refine aw_sldN q_L_law_322 (by omega) hs ?_
  refine aw_aload_n 0 q_L_law_323 rfl rfl ?_
  refine aw_iload_n 3 q_L_law_324 rfl rfl ?_
  refine aw_iconst 2 q_L_law_325 rfl ?_
  refine aw_iadd q_L_law_326 ?_
  rw [show nI j + 2 = nI (j + 2) from nI_add j 2]
  refine aw_sldN q_L_law_327 (by omega) hs ?_
  refine aw_i2l q_L_law_328 ?_
  refine aw_bipush 32 q_L_law_329 rfl ?_
  refine aw_lshl q_L_law_331 ?_
  refine aw_aload_n 0 q_L_law_332 rfl rfl ?_
  refine aw_iload_n 3 q_L_law_333 rfl rfl ?_
  refine aw_iconst 3 q_L_law_334 rfl ?_
  refine aw_iadd q_L_law_335 ?_
  rw [show nI j + 3 = nI (j + 3) from nI_add j 3]
  refine aw_sldN q_L_law_336 (by omega) hs ?_
  refine aw_i2l q_L_law_337 ?_
  refine aw_ldc2 (lZ (4294967295)) q_L_law_338 (am_in4 (i := 152) rfl rfl) ?_
  refine aw_land q_L_law_341 ?_
  refine aw_lor q_L_law_342 ?_
  refine aw_V2 q_L_law_343 st_L_38 rfl (by omega) (Nat.le_of_ble_eq_true rfl) g1 ?_
  refine aw_aload_n 2 q_L_law_346 rfl rfl ?_
  refine aw_aload_n 0 q_L_law_347 rfl rfl ?_
  refine aw_iload_n 3 q_L_law_348 rfl rfl ?_
  refine aw_iconst 1 q_L_law_349 rfl ?_
  refine aw_iadd q_L_law_350 ?_
  rw [show nI j + 1 = nI (j + 1) from nI_add j 1]
  refine aw_sldN q_L_law_351 (by omega) hs ?_
  refine aw_aload_n 0 q_L_law_352 rfl rfl ?_
  refine aw_iload_n 3 q_L_law_353 rfl rfl ?_
  refine aw_iconst 2 q_L_law_354 rfl ?_
  refine aw_iadd q_L_law_355 ?_
  rw [show nI j + 2 = nI (j + 2) from nI_add j 2]
  refine aw_sldN q_L_law_356 (by omega) hs ?_
  refine aw_i2l q_L_law_357 ?_
  refine aw_bipush 32 q_L_law_358 rfl ?_
  refine aw_lshl q_L_law_360 ?_
  refine aw_aload_n 0 q_L_law_361 rfl rfl ?_
  refine aw_iload_n 3 q_L_law_362 rfl rfl ?_
  refine aw_iconst 3 q_L_law_363 rfl ?_
  refine aw_iadd q_L_law_364 ?_
  rw [show nI j + 3 = nI (j + 3) from nI_add j 3]
  refine aw_sldN q_L_law_365 (by omega) hs ?_
  refine aw_i2l q_L_law_366 ?_
  refine aw_ldc2 (lZ (4294967295)) q_L_law_367 (am_in4 (i := 152) rfl rfl) ?_
  refine aw_land q_L_law_370 ?_
  refine aw_lor q_L_law_371 ?_
  refine aw_V2 q_L_law_372 st_L_42 rfl (by omega) (Nat.le_of_ble_eq_true rfl) g2 ?_
  refine aw_icmp_eq 1065 q_L_law_375 rfl (fun c375 => ?_) (fun c375 => ?_)
  · skip
    exact g
  · skip
    exact absurd rfl c375
theorem lw_join (sc : am_S) (hs : sc.1 ≤ 3585) (A : ST) (q : QS) (t : TS) (i : INV A q) (j : Nat) (hj : j + 7 ≤ sc.1) (ih : ∀ (A2 : ST) (q2 : QS) (t2 : TS), INV A2 q2 → ∃ (A3 : ST) (q3 : QS) (t3 : TS), AW sc m_L_law 60 1065 [some (.ref 0), some (.ref 1), some (.ref 50), some (.int (nI j))] [] (hp A2 q2 A2 t2) (some (.int 1)) (hp A3 q3 A3 t3)) : ∃ (A3 : ST) (q3 : QS) (t3 : TS), AW sc m_L_law 60 380 [some (.ref 0), some (.ref 1), some (.ref 50), some (.int (nI j))] [] (hp A q A t) (some (.int 1)) (hp A3 q3 A3 t3) := by
  obtain ⟨v, A1, q1, A2, q2, t2, g1, g2, i2⟩ := p_join sc (sc.2 (j + 1)) (sc.2 (j + 2)) (lg sc (j + 3) (j + 4)) i t
  obtain ⟨A3, q3, t3, g⟩ := ih A2 q2 t2 i2
  refine ⟨A3, q3, t3, ?_⟩
  refine aw_aload_n 1 q_L_law_380 rfl rfl ?_
  refine aw_aload_n 0 q_L_law_381 rfl rfl ?_
  refine aw_iload_n 3 q_L_law_382 rfl rfl ?_
  refine aw_iconst 1 q_L_law_383 rfl ?_
  refine aw_iadd q_L_law_384 ?_
  rw [show nI j + 1 = nI (j + 1) from nI_add j 1]
  refine aw_sldN q_L_law_385 (by omega) hs ?_
  refine aw_aload_n 0 q_L_law_386 rfl rfl ?_
  refine aw_iload_n 3 q_L_law_387 rfl rfl ?_
  refine aw_iconst 2 q_L_law_388 rfl ?_
  refine aw_iadd q_L_law_389 ?_
  rw [show nI j + 2 = nI (j + 2) from nI_add j 2]
  refine aw_sldN q_L_law_390 (by omega) hs ?_
  refine aw_aload_n 0 q_L_law_391 rfl rfl ?_
  refine aw_iload_n 3 q_L_law_392 rfl rfl ?_
  refine aw_iconst 3 q_L_law_393 rfl ?_
  refine aw_iadd q_L_law_394 ?_
  rw [show nI j + 3 = nI (j + 3) from nI_add j 3]
  refine aw_sldN q_L_law_395 (by omega) hs ?_
  refine aw_i2l q_L_law_396 ?_
  refine aw_bipush 32 q_L_law_397 rfl ?_
  refine aw_lshl q_L_law_399 ?_
  refine aw_aload_n 0 q_L_law_400 rfl rfl ?_
  refine aw_iload_n 3 q_L_law_401 rfl rfl ?_
  refine aw_iconst 4 q_L_law_402 rfl ?_
  refine aw_iadd q_L_law_403 ?_
  rw [show nI j + 4 = nI (j + 4) from nI_add j 4]
  refine aw_sldN q_L_law_404 (by omega) hs ?_
  refine aw_i2l q_L_law_405 ?_
  refine aw_ldc2 (lZ (4294967295)) q_L_law_406 (am_in4 (i := 152) rfl rfl) ?_
  refine aw_land q_L_law_409 ?_
  refine aw_lor q_L_law_410 ?_
  refine aw_V3 q_L_law_411 st_L_43 rfl (by omega) (Nat.le_of_ble_eq_true rfl) g1 ?_
  refine aw_aload_n 2 q_L_law_414 rfl rfl ?_
  refine aw_aload_n 0 q_L_law_415 rfl rfl ?_
  refine aw_iload_n 3 q_L_law_416 rfl rfl ?_
  refine aw_iconst 1 q_L_law_417 rfl ?_
  refine aw_iadd q_L_law_418 ?_
  rw [show nI j + 1 = nI (j + 1) from nI_add j 1]
  refine aw_sldN q_L_law_419 (by omega) hs ?_
  refine aw_aload_n 0 q_L_law_420 rfl rfl ?_
  refine aw_iload_n 3 q_L_law_421 rfl rfl ?_
  refine aw_iconst 2 q_L_law_422 rfl ?_
  refine aw_iadd q_L_law_423 ?_
  rw [show nI j + 2 = nI (j + 2) from nI_add j 2]
  refine aw_sldN q_L_law_424 (by omega) hs ?_
  refine aw_aload_n 0 q_L_law_425 rfl rfl ?_
  refine aw_iload_n 3 q_L_law_426 rfl rfl ?_
  refine aw_iconst 3 q_L_law_427 rfl ?_
  refine aw_iadd q_L_law_428 ?_
  rw [show nI j + 3 = nI (j + 3) from nI_add j 3]
  refine aw_sldN q_L_law_429 (by omega) hs ?_
  refine aw_i2l q_L_law_430 ?_
  refine aw_bipush 32 q_L_law_431 rfl ?_
  refine aw_lshl q_L_law_433 ?_
  refine aw_aload_n 0 q_L_law_434 rfl rfl ?_
  refine aw_iload_n 3 q_L_law_435 rfl rfl ?_
  refine aw_iconst 4 q_L_law_436 rfl ?_
  refine aw_iadd q_L_law_437 ?_
  rw [show nI j + 4 = nI (j + 4) from nI_add j 4]
  refine aw_sldN q_L_law_438 (by omega) hs ?_
  refine aw_i2l q_L_law_439 ?_
  refine aw_ldc2 (lZ (4294967295)) q_L_law_440 (am_in4 (i := 152) rfl rfl) ?_
  refine aw_land q_L_law_443 ?_
  refine aw_lor q_L_law_444 ?_
  refine aw_V3 q_L_law_445 st_L_47 rfl (by omega) (Nat.le_of_ble_eq_true rfl) g2 ?_
  refine aw_icmp_eq 1065 q_L_law_448 rfl (fun c448 => ?_) (fun c448 => ?_)
  · skip
    exact g
  · skip
    exact absurd rfl c448
theorem lw_district (sc : am_S) (hs : sc.1 ≤ 3585) (A : ST) (q : QS) (t : TS) (i : INV A q) (j : Nat) (hj : j + 7 ≤ sc.1) (ih : ∀ (A2 : ST) (q2 : QS) (t2 : TS), INV A2 q2 → ∃ (A3 : ST) (q3 : QS) (t3 : TS), AW sc m_L_law 60 1065 [some (.ref 0), some (.ref 1), some (.ref 50), some (.int (nI j))] [] (hp A2 q2 A2 t2) (some (.int 1)) (hp A3 q3 A3 t3)) : ∃ (A3 : ST) (q3 : QS) (t3 : TS), AW sc m_L_law 60 453 [some (.ref 0), some (.ref 1), some (.ref 50), some (.int (nI j))] [] (hp A q A t) (some (.int 1)) (hp A3 q3 A3 t3) := by
  obtain ⟨v, A1, q1, A2, q2, t2, g1, g2, i2⟩ := p_district sc (sc.2 (j + 1)) (sc.2 (j + 2)) i t
  obtain ⟨A3, q3, t3, g⟩ := ih A2 q2 t2 i2
  refine ⟨A3, q3, t3, ?_⟩
  refine aw_aload_n 1 q_L_law_453 rfl rfl ?_
  refine aw_aload_n 0 q_L_law_454 rfl rfl ?_
  refine aw_iload_n 3 q_L_law_455 rfl rfl ?_
  refine aw_iconst 1 q_L_law_456 rfl ?_
  refine aw_iadd q_L_law_457 ?_
  rw [show nI j + 1 = nI (j + 1) from nI_add j 1]
  refine aw_sldN q_L_law_458 (by omega) hs ?_
  refine aw_aload_n 0 q_L_law_459 rfl rfl ?_
  refine aw_iload_n 3 q_L_law_460 rfl rfl ?_
  refine aw_iconst 2 q_L_law_461 rfl ?_
  refine aw_iadd q_L_law_462 ?_
  rw [show nI j + 2 = nI (j + 2) from nI_add j 2]
  refine aw_sldN q_L_law_463 (by omega) hs ?_
  refine aw_V2 q_L_law_464 st_L_48 rfl (by omega) (Nat.le_of_ble_eq_true rfl) g1 ?_
  refine aw_aload_n 2 q_L_law_467 rfl rfl ?_
  refine aw_aload_n 0 q_L_law_468 rfl rfl ?_
  refine aw_iload_n 3 q_L_law_469 rfl rfl ?_
  refine aw_iconst 1 q_L_law_470 rfl ?_
  refine aw_iadd q_L_law_471 ?_
  rw [show nI j + 1 = nI (j + 1) from nI_add j 1]
  refine aw_sldN q_L_law_472 (by omega) hs ?_
  refine aw_aload_n 0 q_L_law_473 rfl rfl ?_
  refine aw_iload_n 3 q_L_law_474 rfl rfl ?_
  refine aw_iconst 2 q_L_law_475 rfl ?_
  refine aw_iadd q_L_law_476 ?_
  rw [show nI j + 2 = nI (j + 2) from nI_add j 2]
  refine aw_sldN q_L_law_477 (by omega) hs ?_
  refine aw_V2 q_L_law_478 st_L_52 rfl (by omega) (Nat.le_of_ble_eq_true rfl) g2 ?_
  refine aw_icmp_eq 1065 q_L_law_481 rfl (fun c481 => ?_) (fun c481 => ?_)
  · skip
    exact g
  · skip
    exact absurd rfl c481
theorem lw_fair (sc : am_S) (hs : sc.1 ≤ 3585) (A : ST) (q : QS) (t : TS) (i : INV A q) (j : Nat) (hj : j + 7 ≤ sc.1) (ih : ∀ (A2 : ST) (q2 : QS) (t2 : TS), INV A2 q2 → ∃ (A3 : ST) (q3 : QS) (t3 : TS), AW sc m_L_law 60 1065 [some (.ref 0), some (.ref 1), some (.ref 50), some (.int (nI j))] [] (hp A2 q2 A2 t2) (some (.int 1)) (hp A3 q3 A3 t3)) : ∃ (A3 : ST) (q3 : QS) (t3 : TS), AW sc m_L_law 60 486 [some (.ref 0), some (.ref 1), some (.ref 50), some (.int (nI j))] [] (hp A q A t) (some (.int 1)) (hp A3 q3 A3 t3) := by
  obtain ⟨v, A1, q1, A2, q2, t2, g1, g2, i2⟩ := p_fair sc (lg sc (j + 1) (j + 2)) i t
  obtain ⟨A3, q3, t3, g⟩ := ih A2 q2 t2 i2
  refine ⟨A3, q3, t3, ?_⟩
  refine aw_aload_n 1 q_L_law_486 rfl rfl ?_
  refine aw_aload_n 0 q_L_law_487 rfl rfl ?_
  refine aw_iload_n 3 q_L_law_488 rfl rfl ?_
  refine aw_iconst 1 q_L_law_489 rfl ?_
  refine aw_iadd q_L_law_490 ?_
  rw [show nI j + 1 = nI (j + 1) from nI_add j 1]
  refine aw_sldN q_L_law_491 (by omega) hs ?_
  refine aw_i2l q_L_law_492 ?_
  refine aw_bipush 32 q_L_law_493 rfl ?_
  refine aw_lshl q_L_law_495 ?_
  refine aw_aload_n 0 q_L_law_496 rfl rfl ?_
  refine aw_iload_n 3 q_L_law_497 rfl rfl ?_
  refine aw_iconst 2 q_L_law_498 rfl ?_
  refine aw_iadd q_L_law_499 ?_
  rw [show nI j + 2 = nI (j + 2) from nI_add j 2]
  refine aw_sldN q_L_law_500 (by omega) hs ?_
  refine aw_i2l q_L_law_501 ?_
  refine aw_ldc2 (lZ (4294967295)) q_L_law_502 (am_in4 (i := 152) rfl rfl) ?_
  refine aw_land q_L_law_505 ?_
  refine aw_lor q_L_law_506 ?_
  refine aw_V1 q_L_law_507 st_L_53 rfl (by omega) (Nat.le_of_ble_eq_true rfl) g1 ?_
  refine aw_aload_n 2 q_L_law_510 rfl rfl ?_
  refine aw_aload_n 0 q_L_law_511 rfl rfl ?_
  refine aw_iload_n 3 q_L_law_512 rfl rfl ?_
  refine aw_iconst 1 q_L_law_513 rfl ?_
  refine aw_iadd q_L_law_514 ?_
  rw [show nI j + 1 = nI (j + 1) from nI_add j 1]
  refine aw_sldN q_L_law_515 (by omega) hs ?_
  refine aw_i2l q_L_law_516 ?_
  refine aw_bipush 32 q_L_law_517 rfl ?_
  refine aw_lshl q_L_law_519 ?_
  refine aw_aload_n 0 q_L_law_520 rfl rfl ?_
  refine aw_iload_n 3 q_L_law_521 rfl rfl ?_
  refine aw_iconst 2 q_L_law_522 rfl ?_
  refine aw_iadd q_L_law_523 ?_
  rw [show nI j + 2 = nI (j + 2) from nI_add j 2]
  refine aw_sldN q_L_law_524 (by omega) hs ?_
  refine aw_i2l q_L_law_525 ?_
  refine aw_ldc2 (lZ (4294967295)) q_L_law_526 (am_in4 (i := 152) rfl rfl) ?_
  refine aw_land q_L_law_529 ?_
  refine aw_lor q_L_law_530 ?_
  refine aw_V1 q_L_law_531 st_L_57 rfl (by omega) (Nat.le_of_ble_eq_true rfl) g2 ?_
  refine aw_icmp_eq 1065 q_L_law_534 rfl (fun c534 => ?_) (fun c534 => ?_)
  · skip
    exact g
  · skip
    exact absurd rfl c534
theorem lw_run (sc : am_S) (hs : sc.1 ≤ 3585) (A : ST) (q : QS) (t : TS) (i : INV A q) (j : Nat) (hj : j + 7 ≤ sc.1) (ih : ∀ (A2 : ST) (q2 : QS) (t2 : TS), INV A2 q2 → ∃ (A3 : ST) (q3 : QS) (t3 : TS), AW sc m_L_law 60 1065 [some (.ref 0), some (.ref 1), some (.ref 50), some (.int (nI j))] [] (hp A2 q2 A2 t2) (some (.int 1)) (hp A3 q3 A3 t3)) : ∃ (A3 : ST) (q3 : QS) (t3 : TS), AW sc m_L_law 60 539 [some (.ref 0), some (.ref 1), some (.ref 50), some (.int (nI j))] [] (hp A q A t) (some (.int 1)) (hp A3 q3 A3 t3) := by
  obtain ⟨v, A1, q1, A2, q2, t2, g1, g2, i2⟩ := p_run sc (lg sc (j + 1) (j + 2)) i t
  obtain ⟨A3, q3, t3, g⟩ := ih A2 q2 t2 i2
  refine ⟨A3, q3, t3, ?_⟩
  refine aw_aload_n 1 q_L_law_539 rfl rfl ?_
  refine aw_aload_n 0 q_L_law_540 rfl rfl ?_
  refine aw_iload_n 3 q_L_law_541 rfl rfl ?_
  refine aw_iconst 1 q_L_law_542 rfl ?_
  refine aw_iadd q_L_law_543 ?_
  rw [show nI j + 1 = nI (j + 1) from nI_add j 1]
  refine aw_sldN q_L_law_544 (by omega) hs ?_
  refine aw_i2l q_L_law_545 ?_
  refine aw_bipush 32 q_L_law_546 rfl ?_
  refine aw_lshl q_L_law_548 ?_
  refine aw_aload_n 0 q_L_law_549 rfl rfl ?_
  refine aw_iload_n 3 q_L_law_550 rfl rfl ?_
  refine aw_iconst 2 q_L_law_551 rfl ?_
  refine aw_iadd q_L_law_552 ?_
  rw [show nI j + 2 = nI (j + 2) from nI_add j 2]
  refine aw_sldN q_L_law_553 (by omega) hs ?_
  refine aw_i2l q_L_law_554 ?_
  refine aw_ldc2 (lZ (4294967295)) q_L_law_555 (am_in4 (i := 152) rfl rfl) ?_
  refine aw_land q_L_law_558 ?_
  refine aw_lor q_L_law_559 ?_
  refine aw_V1 q_L_law_560 st_L_58 rfl (by omega) (Nat.le_of_ble_eq_true rfl) g1 ?_
  refine aw_aload_n 2 q_L_law_563 rfl rfl ?_
  refine aw_aload_n 0 q_L_law_564 rfl rfl ?_
  refine aw_iload_n 3 q_L_law_565 rfl rfl ?_
  refine aw_iconst 1 q_L_law_566 rfl ?_
  refine aw_iadd q_L_law_567 ?_
  rw [show nI j + 1 = nI (j + 1) from nI_add j 1]
  refine aw_sldN q_L_law_568 (by omega) hs ?_
  refine aw_i2l q_L_law_569 ?_
  refine aw_bipush 32 q_L_law_570 rfl ?_
  refine aw_lshl q_L_law_572 ?_
  refine aw_aload_n 0 q_L_law_573 rfl rfl ?_
  refine aw_iload_n 3 q_L_law_574 rfl rfl ?_
  refine aw_iconst 2 q_L_law_575 rfl ?_
  refine aw_iadd q_L_law_576 ?_
  rw [show nI j + 2 = nI (j + 2) from nI_add j 2]
  refine aw_sldN q_L_law_577 (by omega) hs ?_
  refine aw_i2l q_L_law_578 ?_
  refine aw_ldc2 (lZ (4294967295)) q_L_law_579 (am_in4 (i := 152) rfl rfl) ?_
  refine aw_land q_L_law_582 ?_
  refine aw_lor q_L_law_583 ?_
  refine aw_V1 q_L_law_584 st_L_62 rfl (by omega) (Nat.le_of_ble_eq_true rfl) g2 ?_
  refine aw_icmp_eq 1065 q_L_law_587 rfl (fun c587 => ?_) (fun c587 => ?_)
  · skip
    exact g
  · skip
    exact absurd rfl c587
theorem lw_chosen (sc : am_S) (hs : sc.1 ≤ 3585) (A : ST) (q : QS) (t : TS) (i : INV A q) (j : Nat) (hj : j + 7 ≤ sc.1) (ih : ∀ (A2 : ST) (q2 : QS) (t2 : TS), INV A2 q2 → ∃ (A3 : ST) (q3 : QS) (t3 : TS), AW sc m_L_law 60 1065 [some (.ref 0), some (.ref 1), some (.ref 50), some (.int (nI j))] [] (hp A2 q2 A2 t2) (some (.int 1)) (hp A3 q3 A3 t3)) : ∃ (A3 : ST) (q3 : QS) (t3 : TS), AW sc m_L_law 60 592 [some (.ref 0), some (.ref 1), some (.ref 50), some (.int (nI j))] [] (hp A q A t) (some (.int 1)) (hp A3 q3 A3 t3) := by
  obtain ⟨v, A1, q1, A2, q2, t2, g1, g2, i2⟩ := p_chosen sc (sc.2 (j + 1)) i t
  obtain ⟨A3, q3, t3, g⟩ := ih A2 q2 t2 i2
  refine ⟨A3, q3, t3, ?_⟩
  refine aw_aload_n 1 q_L_law_592 rfl rfl ?_
  refine aw_aload_n 0 q_L_law_593 rfl rfl ?_
  refine aw_iload_n 3 q_L_law_594 rfl rfl ?_
  refine aw_iconst 1 q_L_law_595 rfl ?_
  refine aw_iadd q_L_law_596 ?_
  rw [show nI j + 1 = nI (j + 1) from nI_add j 1]
  refine aw_sldN q_L_law_597 (by omega) hs ?_
  refine aw_V1 q_L_law_598 st_L_63 rfl (by omega) (Nat.le_of_ble_eq_true rfl) g1 ?_
  refine aw_aload_n 2 q_L_law_601 rfl rfl ?_
  refine aw_aload_n 0 q_L_law_602 rfl rfl ?_
  refine aw_iload_n 3 q_L_law_603 rfl rfl ?_
  refine aw_iconst 1 q_L_law_604 rfl ?_
  refine aw_iadd q_L_law_605 ?_
  rw [show nI j + 1 = nI (j + 1) from nI_add j 1]
  refine aw_sldN q_L_law_606 (by omega) hs ?_
  refine aw_V1 q_L_law_607 st_L_66 rfl (by omega) (Nat.le_of_ble_eq_true rfl) g2 ?_
  refine aw_icmp_eq 1065 q_L_law_610 rfl (fun c610 => ?_) (fun c610 => ?_)
  · skip
    exact g
  · skip
    exact absurd rfl c610
theorem lw_worth (sc : am_S) (hs : sc.1 ≤ 3585) (A : ST) (q : QS) (t : TS) (i : INV A q) (j : Nat) (hj : j + 7 ≤ sc.1) (ih : ∀ (A2 : ST) (q2 : QS) (t2 : TS), INV A2 q2 → ∃ (A3 : ST) (q3 : QS) (t3 : TS), AW sc m_L_law 60 1065 [some (.ref 0), some (.ref 1), some (.ref 50), some (.int (nI j))] [] (hp A2 q2 A2 t2) (some (.int 1)) (hp A3 q3 A3 t3)) : ∃ (A3 : ST) (q3 : QS) (t3 : TS), AW sc m_L_law 60 615 [some (.ref 0), some (.ref 1), some (.ref 50), some (.int (nI j))] [] (hp A q A t) (some (.int 1)) (hp A3 q3 A3 t3) := by
  obtain ⟨v, A1, q1, A2, q2, t2, g1, g2, i2⟩ := p_worth sc  i t
  obtain ⟨A3, q3, t3, g⟩ := ih A2 q2 t2 i2
  refine ⟨A3, q3, t3, ?_⟩
  refine aw_aload_n 1 q_L_law_615 rfl rfl ?_
  refine aw_V0 q_L_law_616 st_L_67 rfl (by omega) (Nat.le_of_ble_eq_true rfl) g1 ?_
  refine aw_aload_n 2 q_L_law_619 rfl rfl ?_
  refine aw_V0 q_L_law_620 st_L_71 rfl (by omega) (Nat.le_of_ble_eq_true rfl) g2 ?_
  refine aw_lcmp_eq 1065 q_L_law_623 q_L_law_624 rfl (fun c623 => ?_) (fun c623 => ?_)
  · skip
    exact g
  · skip
    exact absurd rfl c623
theorem lw_bound (sc : am_S) (hs : sc.1 ≤ 3585) (A : ST) (q : QS) (t : TS) (i : INV A q) (j : Nat) (hj : j + 7 ≤ sc.1) (ih : ∀ (A2 : ST) (q2 : QS) (t2 : TS), INV A2 q2 → ∃ (A3 : ST) (q3 : QS) (t3 : TS), AW sc m_L_law 60 1065 [some (.ref 0), some (.ref 1), some (.ref 50), some (.int (nI j))] [] (hp A2 q2 A2 t2) (some (.int 1)) (hp A3 q3 A3 t3)) : ∃ (A3 : ST) (q3 : QS) (t3 : TS), AW sc m_L_law 60 629 [some (.ref 0), some (.ref 1), some (.ref 50), some (.int (nI j))] [] (hp A q A t) (some (.int 1)) (hp A3 q3 A3 t3) := by
  obtain ⟨v, A1, q1, A2, q2, t2, g1, g2, i2⟩ := p_bound sc (sc.2 (j + 1)) i t
  obtain ⟨A3, q3, t3, g⟩ := ih A2 q2 t2 i2
  refine ⟨A3, q3, t3, ?_⟩
  refine aw_aload_n 1 q_L_law_629 rfl rfl ?_
  refine aw_aload_n 0 q_L_law_630 rfl rfl ?_
  refine aw_iload_n 3 q_L_law_631 rfl rfl ?_
  refine aw_iconst 1 q_L_law_632 rfl ?_
  refine aw_iadd q_L_law_633 ?_
  rw [show nI j + 1 = nI (j + 1) from nI_add j 1]
  refine aw_sldN q_L_law_634 (by omega) hs ?_
  refine aw_V1 q_L_law_635 st_L_72 rfl (by omega) (Nat.le_of_ble_eq_true rfl) g1 ?_
  refine aw_aload_n 2 q_L_law_638 rfl rfl ?_
  refine aw_aload_n 0 q_L_law_639 rfl rfl ?_
  refine aw_iload_n 3 q_L_law_640 rfl rfl ?_
  refine aw_iconst 1 q_L_law_641 rfl ?_
  refine aw_iadd q_L_law_642 ?_
  rw [show nI j + 1 = nI (j + 1) from nI_add j 1]
  refine aw_sldN q_L_law_643 (by omega) hs ?_
  refine aw_V1 q_L_law_644 st_L_76 rfl (by omega) (Nat.le_of_ble_eq_true rfl) g2 ?_
  refine aw_lcmp_eq 1065 q_L_law_647 q_L_law_648 rfl (fun c647 => ?_) (fun c647 => ?_)
  · skip
    exact g
  · skip
    exact absurd rfl c647
theorem lw_clash (sc : am_S) (hs : sc.1 ≤ 3585) (A : ST) (q : QS) (t : TS) (i : INV A q) (j : Nat) (hj : j + 7 ≤ sc.1) (ih : ∀ (A2 : ST) (q2 : QS) (t2 : TS), INV A2 q2 → ∃ (A3 : ST) (q3 : QS) (t3 : TS), AW sc m_L_law 60 1065 [some (.ref 0), some (.ref 1), some (.ref 50), some (.int (nI j))] [] (hp A2 q2 A2 t2) (some (.int 1)) (hp A3 q3 A3 t3)) : ∃ (A3 : ST) (q3 : QS) (t3 : TS), AW sc m_L_law 60 653 [some (.ref 0), some (.ref 1), some (.ref 50), some (.int (nI j))] [] (hp A q A t) (some (.int 1)) (hp A3 q3 A3 t3) := by
  obtain ⟨v, A1, q1, A2, q2, t2, g1, g2, i2⟩ := p_clash sc (sc.2 (j + 1)) i t
  obtain ⟨A3, q3, t3, g⟩ := ih A2 q2 t2 i2
  refine ⟨A3, q3, t3, ?_⟩
  refine aw_aload_n 1 q_L_law_653 rfl rfl ?_
  refine aw_aload_n 0 q_L_law_654 rfl rfl ?_
  refine aw_iload_n 3 q_L_law_655 rfl rfl ?_
  refine aw_iconst 1 q_L_law_656 rfl ?_
  refine aw_iadd q_L_law_657 ?_
  rw [show nI j + 1 = nI (j + 1) from nI_add j 1]
  refine aw_sldN q_L_law_658 (by omega) hs ?_
  refine aw_V1 q_L_law_659 st_L_77 rfl (by omega) (Nat.le_of_ble_eq_true rfl) g1 ?_
  refine aw_aload_n 2 q_L_law_662 rfl rfl ?_
  refine aw_aload_n 0 q_L_law_663 rfl rfl ?_
  refine aw_iload_n 3 q_L_law_664 rfl rfl ?_
  refine aw_iconst 1 q_L_law_665 rfl ?_
  refine aw_iadd q_L_law_666 ?_
  rw [show nI j + 1 = nI (j + 1) from nI_add j 1]
  refine aw_sldN q_L_law_667 (by omega) hs ?_
  refine aw_V1 q_L_law_668 st_L_80 rfl (by omega) (Nat.le_of_ble_eq_true rfl) g2 ?_
  refine aw_icmp_eq 1065 q_L_law_671 rfl (fun c671 => ?_) (fun c671 => ?_)
  · skip
    exact g
  · skip
    exact absurd rfl c671
theorem lw_proved (sc : am_S) (hs : sc.1 ≤ 3585) (A : ST) (q : QS) (t : TS) (i : INV A q) (j : Nat) (hj : j + 7 ≤ sc.1) (ih : ∀ (A2 : ST) (q2 : QS) (t2 : TS), INV A2 q2 → ∃ (A3 : ST) (q3 : QS) (t3 : TS), AW sc m_L_law 60 1065 [some (.ref 0), some (.ref 1), some (.ref 50), some (.int (nI j))] [] (hp A2 q2 A2 t2) (some (.int 1)) (hp A3 q3 A3 t3)) : ∃ (A3 : ST) (q3 : QS) (t3 : TS), AW sc m_L_law 60 676 [some (.ref 0), some (.ref 1), some (.ref 50), some (.int (nI j))] [] (hp A q A t) (some (.int 1)) (hp A3 q3 A3 t3) := by
  obtain ⟨v, A1, q1, A2, q2, t2, g1, g2, i2⟩ := p_proved sc  i t
  obtain ⟨A3, q3, t3, g⟩ := ih A2 q2 t2 i2
  refine ⟨A3, q3, t3, ?_⟩
  refine aw_aload_n 1 q_L_law_676 rfl rfl ?_
  refine aw_V0 q_L_law_677 st_L_81 rfl (by omega) (Nat.le_of_ble_eq_true rfl) g1 ?_
  refine aw_aload_n 2 q_L_law_680 rfl rfl ?_
  refine aw_V0 q_L_law_681 st_L_85 rfl (by omega) (Nat.le_of_ble_eq_true rfl) g2 ?_
  refine aw_icmp_eq 1065 q_L_law_684 rfl (fun c684 => ?_) (fun c684 => ?_)
  · skip
    exact g
  · skip
    exact absurd rfl c684
theorem lw_price (sc : am_S) (hs : sc.1 ≤ 3585) (A : ST) (q : QS) (t : TS) (i : INV A q) (j : Nat) (hj : j + 7 ≤ sc.1) (ih : ∀ (A2 : ST) (q2 : QS) (t2 : TS), INV A2 q2 → ∃ (A3 : ST) (q3 : QS) (t3 : TS), AW sc m_L_law 60 1065 [some (.ref 0), some (.ref 1), some (.ref 50), some (.int (nI j))] [] (hp A2 q2 A2 t2) (some (.int 1)) (hp A3 q3 A3 t3)) : ∃ (A3 : ST) (q3 : QS) (t3 : TS), AW sc m_L_law 60 689 [some (.ref 0), some (.ref 1), some (.ref 50), some (.int (nI j))] [] (hp A q A t) (some (.int 1)) (hp A3 q3 A3 t3) := by
  obtain ⟨v, A1, q1, A2, q2, t2, g1, g2, i2⟩ := p_price sc (sc.2 (j + 1)) (sc.2 (j + 2)) i t
  obtain ⟨A3, q3, t3, g⟩ := ih A2 q2 t2 i2
  refine ⟨A3, q3, t3, ?_⟩
  refine aw_aload_n 1 q_L_law_689 rfl rfl ?_
  refine aw_aload_n 0 q_L_law_690 rfl rfl ?_
  refine aw_iload_n 3 q_L_law_691 rfl rfl ?_
  refine aw_iconst 1 q_L_law_692 rfl ?_
  refine aw_iadd q_L_law_693 ?_
  rw [show nI j + 1 = nI (j + 1) from nI_add j 1]
  refine aw_sldN q_L_law_694 (by omega) hs ?_
  refine aw_aload_n 0 q_L_law_695 rfl rfl ?_
  refine aw_iload_n 3 q_L_law_696 rfl rfl ?_
  refine aw_iconst 2 q_L_law_697 rfl ?_
  refine aw_iadd q_L_law_698 ?_
  rw [show nI j + 2 = nI (j + 2) from nI_add j 2]
  refine aw_sldN q_L_law_699 (by omega) hs ?_
  refine aw_V2 q_L_law_700 st_L_86 rfl (by omega) (Nat.le_of_ble_eq_true rfl) g1 ?_
  refine aw_aload_n 2 q_L_law_703 rfl rfl ?_
  refine aw_aload_n 0 q_L_law_704 rfl rfl ?_
  refine aw_iload_n 3 q_L_law_705 rfl rfl ?_
  refine aw_iconst 1 q_L_law_706 rfl ?_
  refine aw_iadd q_L_law_707 ?_
  rw [show nI j + 1 = nI (j + 1) from nI_add j 1]
  refine aw_sldN q_L_law_708 (by omega) hs ?_
  refine aw_aload_n 0 q_L_law_709 rfl rfl ?_
  refine aw_iload_n 3 q_L_law_710 rfl rfl ?_
  refine aw_iconst 2 q_L_law_711 rfl ?_
  refine aw_iadd q_L_law_712 ?_
  rw [show nI j + 2 = nI (j + 2) from nI_add j 2]
  refine aw_sldN q_L_law_713 (by omega) hs ?_
  refine aw_V2 q_L_law_714 st_L_90 rfl (by omega) (Nat.le_of_ble_eq_true rfl) g2 ?_
  refine aw_lcmp_eq 1065 q_L_law_717 q_L_law_718 rfl (fun c717 => ?_) (fun c717 => ?_)
  · skip
    exact g
  · skip
    exact absurd rfl c717
theorem lw_old (sc : am_S) (hs : sc.1 ≤ 3585) (A : ST) (q : QS) (t : TS) (i : INV A q) (j : Nat) (hj : j + 7 ≤ sc.1) (ih : ∀ (A2 : ST) (q2 : QS) (t2 : TS), INV A2 q2 → ∃ (A3 : ST) (q3 : QS) (t3 : TS), AW sc m_L_law 60 1065 [some (.ref 0), some (.ref 1), some (.ref 50), some (.int (nI j))] [] (hp A2 q2 A2 t2) (some (.int 1)) (hp A3 q3 A3 t3)) : ∃ (A3 : ST) (q3 : QS) (t3 : TS), AW sc m_L_law 60 723 [some (.ref 0), some (.ref 1), some (.ref 50), some (.int (nI j))] [] (hp A q A t) (some (.int 1)) (hp A3 q3 A3 t3) := by
  by_cases h0 : sc.2 (j + 2) = 0
  · obtain ⟨v, A1, q1, A2, q2, t2, g1, g2, i2⟩ := p_old sc (sc.2 (j + 1)) false i t
    obtain ⟨A3, q3, t3, g⟩ := ih A2 q2 t2 i2
    refine ⟨A3, q3, t3, ?_⟩
    refine aw_aload_n 1 q_L_law_723 rfl rfl ?_
    refine aw_aload_n 0 q_L_law_724 rfl rfl ?_
    refine aw_iload_n 3 q_L_law_725 rfl rfl ?_
    refine aw_iconst 1 q_L_law_726 rfl ?_
    refine aw_iadd q_L_law_727 ?_
    rw [show nI j + 1 = nI (j + 1) from nI_add j 1]
    refine aw_sldN q_L_law_728 (by omega) hs ?_
    refine aw_aload_n 0 q_L_law_729 rfl rfl ?_
    refine aw_iload_n 3 q_L_law_730 rfl rfl ?_
    refine aw_iconst 2 q_L_law_731 rfl ?_
    refine aw_iadd q_L_law_732 ?_
    rw [show nI j + 2 = nI (j + 2) from nI_add j 2]
    refine aw_sldN q_L_law_733 (by omega) hs ?_
    refine aw_if_eq 741 q_L_law_734 rfl (fun c734 => ?_) (fun c734 => ?_)
    · skip
      refine aw_iconst 0 q_L_law_741 rfl ?_
      refine aw_V2 q_L_law_742 st_L_91 rfl (by omega) (Nat.le_of_ble_eq_true rfl) g1 ?_
      refine aw_aload_n 2 q_L_law_745 rfl rfl ?_
      refine aw_aload_n 0 q_L_law_746 rfl rfl ?_
      refine aw_iload_n 3 q_L_law_747 rfl rfl ?_
      refine aw_iconst 1 q_L_law_748 rfl ?_
      refine aw_iadd q_L_law_749 ?_
      rw [show nI j + 1 = nI (j + 1) from nI_add j 1]
      refine aw_sldN q_L_law_750 (by omega) hs ?_
      refine aw_aload_n 0 q_L_law_751 rfl rfl ?_
      refine aw_iload_n 3 q_L_law_752 rfl rfl ?_
      refine aw_iconst 2 q_L_law_753 rfl ?_
      refine aw_iadd q_L_law_754 ?_
      rw [show nI j + 2 = nI (j + 2) from nI_add j 2]
      refine aw_sldN q_L_law_755 (by omega) hs ?_
      refine aw_if_eq 763 q_L_law_756 rfl (fun c756 => ?_) (fun c756 => ?_)
      · skip
        refine aw_iconst 0 q_L_law_763 rfl ?_
        refine aw_V2 q_L_law_764 st_L_95 rfl (by omega) (Nat.le_of_ble_eq_true rfl) g2 ?_
        refine aw_icmp_eq 1065 q_L_law_767 rfl (fun c767 => ?_) (fun c767 => ?_)
        · skip
          exact g
        · skip
          exact absurd rfl c767
      · skip
        exact absurd h0 c756
    · skip
      exact absurd h0 c734
  · obtain ⟨v, A1, q1, A2, q2, t2, g1, g2, i2⟩ := p_old sc (sc.2 (j + 1)) true i t
    obtain ⟨A3, q3, t3, g⟩ := ih A2 q2 t2 i2
    refine ⟨A3, q3, t3, ?_⟩
    refine aw_aload_n 1 q_L_law_723 rfl rfl ?_
    refine aw_aload_n 0 q_L_law_724 rfl rfl ?_
    refine aw_iload_n 3 q_L_law_725 rfl rfl ?_
    refine aw_iconst 1 q_L_law_726 rfl ?_
    refine aw_iadd q_L_law_727 ?_
    rw [show nI j + 1 = nI (j + 1) from nI_add j 1]
    refine aw_sldN q_L_law_728 (by omega) hs ?_
    refine aw_aload_n 0 q_L_law_729 rfl rfl ?_
    refine aw_iload_n 3 q_L_law_730 rfl rfl ?_
    refine aw_iconst 2 q_L_law_731 rfl ?_
    refine aw_iadd q_L_law_732 ?_
    rw [show nI j + 2 = nI (j + 2) from nI_add j 2]
    refine aw_sldN q_L_law_733 (by omega) hs ?_
    refine aw_if_eq 741 q_L_law_734 rfl (fun c734 => ?_) (fun c734 => ?_)
    · skip
      exact absurd c734 h0
    · skip
      refine aw_iconst 1 q_L_law_737 rfl ?_
      refine aw_goto 742 q_L_law_738 rfl ?_
      refine aw_V2 q_L_law_742 st_L_91 rfl (by omega) (Nat.le_of_ble_eq_true rfl) g1 ?_
      refine aw_aload_n 2 q_L_law_745 rfl rfl ?_
      refine aw_aload_n 0 q_L_law_746 rfl rfl ?_
      refine aw_iload_n 3 q_L_law_747 rfl rfl ?_
      refine aw_iconst 1 q_L_law_748 rfl ?_
      refine aw_iadd q_L_law_749 ?_
      rw [show nI j + 1 = nI (j + 1) from nI_add j 1]
      refine aw_sldN q_L_law_750 (by omega) hs ?_
      refine aw_aload_n 0 q_L_law_751 rfl rfl ?_
      refine aw_iload_n 3 q_L_law_752 rfl rfl ?_
      refine aw_iconst 2 q_L_law_753 rfl ?_
      refine aw_iadd q_L_law_754 ?_
      rw [show nI j + 2 = nI (j + 2) from nI_add j 2]
      refine aw_sldN q_L_law_755 (by omega) hs ?_
      refine aw_if_eq 763 q_L_law_756 rfl (fun c756 => ?_) (fun c756 => ?_)
      · skip
        exact absurd c756 h0
      · skip
        refine aw_iconst 1 q_L_law_759 rfl ?_
        refine aw_goto 764 q_L_law_760 rfl ?_
        refine aw_V2 q_L_law_764 st_L_95 rfl (by omega) (Nat.le_of_ble_eq_true rfl) g2 ?_
        refine aw_icmp_eq 1065 q_L_law_767 rfl (fun c767 => ?_) (fun c767 => ?_)
        · skip
          exact g
        · skip
          exact absurd rfl c767
theorem lw_changes (sc : am_S) (hs : sc.1 ≤ 3585) (A : ST) (q : QS) (t : TS) (i : INV A q) (j : Nat) (hj : j + 7 ≤ sc.1) (ih : ∀ (A2 : ST) (q2 : QS) (t2 : TS), INV A2 q2 → ∃ (A3 : ST) (q3 : QS) (t3 : TS), AW sc m_L_law 60 1065 [some (.ref 0), some (.ref 1), some (.ref 50), some (.int (nI j))] [] (hp A2 q2 A2 t2) (some (.int 1)) (hp A3 q3 A3 t3)) : ∃ (A3 : ST) (q3 : QS) (t3 : TS), AW sc m_L_law 60 772 [some (.ref 0), some (.ref 1), some (.ref 50), some (.int (nI j))] [] (hp A q A t) (some (.int 1)) (hp A3 q3 A3 t3) := by
  obtain ⟨v, A1, q1, A2, q2, t2, g1, g2, i2⟩ := p_changes sc (lg sc (j + 1) (j + 2)) i t
  obtain ⟨A3, q3, t3, g⟩ := ih A2 q2 t2 i2
  refine ⟨A3, q3, t3, ?_⟩
  refine aw_aload_n 1 q_L_law_772 rfl rfl ?_
  refine aw_aload_n 0 q_L_law_773 rfl rfl ?_
  refine aw_iload_n 3 q_L_law_774 rfl rfl ?_
  refine aw_iconst 1 q_L_law_775 rfl ?_
  refine aw_iadd q_L_law_776 ?_
  rw [show nI j + 1 = nI (j + 1) from nI_add j 1]
  refine aw_sldN q_L_law_777 (by omega) hs ?_
  refine aw_i2l q_L_law_778 ?_
  refine aw_bipush 32 q_L_law_779 rfl ?_
  refine aw_lshl q_L_law_781 ?_
  refine aw_aload_n 0 q_L_law_782 rfl rfl ?_
  refine aw_iload_n 3 q_L_law_783 rfl rfl ?_
  refine aw_iconst 2 q_L_law_784 rfl ?_
  refine aw_iadd q_L_law_785 ?_
  rw [show nI j + 2 = nI (j + 2) from nI_add j 2]
  refine aw_sldN q_L_law_786 (by omega) hs ?_
  refine aw_i2l q_L_law_787 ?_
  refine aw_ldc2 (lZ (4294967295)) q_L_law_788 (am_in4 (i := 152) rfl rfl) ?_
  refine aw_land q_L_law_791 ?_
  refine aw_lor q_L_law_792 ?_
  refine aw_V1 q_L_law_793 st_L_96 rfl (by omega) (Nat.le_of_ble_eq_true rfl) g1 ?_
  refine aw_aload_n 2 q_L_law_796 rfl rfl ?_
  refine aw_aload_n 0 q_L_law_797 rfl rfl ?_
  refine aw_iload_n 3 q_L_law_798 rfl rfl ?_
  refine aw_iconst 1 q_L_law_799 rfl ?_
  refine aw_iadd q_L_law_800 ?_
  rw [show nI j + 1 = nI (j + 1) from nI_add j 1]
  refine aw_sldN q_L_law_801 (by omega) hs ?_
  refine aw_i2l q_L_law_802 ?_
  refine aw_bipush 32 q_L_law_803 rfl ?_
  refine aw_lshl q_L_law_805 ?_
  refine aw_aload_n 0 q_L_law_806 rfl rfl ?_
  refine aw_iload_n 3 q_L_law_807 rfl rfl ?_
  refine aw_iconst 2 q_L_law_808 rfl ?_
  refine aw_iadd q_L_law_809 ?_
  rw [show nI j + 2 = nI (j + 2) from nI_add j 2]
  refine aw_sldN q_L_law_810 (by omega) hs ?_
  refine aw_i2l q_L_law_811 ?_
  refine aw_ldc2 (lZ (4294967295)) q_L_law_812 (am_in4 (i := 152) rfl rfl) ?_
  refine aw_land q_L_law_815 ?_
  refine aw_lor q_L_law_816 ?_
  refine aw_V1 q_L_law_817 st_L_99 rfl (by omega) (Nat.le_of_ble_eq_true rfl) g2 ?_
  refine aw_icmp_eq 1065 q_L_law_820 rfl (fun c820 => ?_) (fun c820 => ?_)
  · skip
    exact g
  · skip
    exact absurd rfl c820
theorem lw_changed (sc : am_S) (hs : sc.1 ≤ 3585) (A : ST) (q : QS) (t : TS) (i : INV A q) (j : Nat) (hj : j + 7 ≤ sc.1) (ih : ∀ (A2 : ST) (q2 : QS) (t2 : TS), INV A2 q2 → ∃ (A3 : ST) (q3 : QS) (t3 : TS), AW sc m_L_law 60 1065 [some (.ref 0), some (.ref 1), some (.ref 50), some (.int (nI j))] [] (hp A2 q2 A2 t2) (some (.int 1)) (hp A3 q3 A3 t3)) : ∃ (A3 : ST) (q3 : QS) (t3 : TS), AW sc m_L_law 60 825 [some (.ref 0), some (.ref 1), some (.ref 50), some (.int (nI j))] [] (hp A q A t) (some (.int 1)) (hp A3 q3 A3 t3) := by
  obtain ⟨v, A1, q1, A2, q2, t2, g1, g2, i2⟩ := p_changed sc (sc.2 (j + 1)) i t
  obtain ⟨A3, q3, t3, g⟩ := ih A2 q2 t2 i2
  refine ⟨A3, q3, t3, ?_⟩
  refine aw_aload_n 1 q_L_law_825 rfl rfl ?_
  refine aw_aload_n 0 q_L_law_826 rfl rfl ?_
  refine aw_iload_n 3 q_L_law_827 rfl rfl ?_
  refine aw_iconst 1 q_L_law_828 rfl ?_
  refine aw_iadd q_L_law_829 ?_
  rw [show nI j + 1 = nI (j + 1) from nI_add j 1]
  refine aw_sldN q_L_law_830 (by omega) hs ?_
  refine aw_V1 q_L_law_831 st_L_100 rfl (by omega) (Nat.le_of_ble_eq_true rfl) g1 ?_
  refine aw_aload_n 2 q_L_law_834 rfl rfl ?_
  refine aw_aload_n 0 q_L_law_835 rfl rfl ?_
  refine aw_iload_n 3 q_L_law_836 rfl rfl ?_
  refine aw_iconst 1 q_L_law_837 rfl ?_
  refine aw_iadd q_L_law_838 ?_
  rw [show nI j + 1 = nI (j + 1) from nI_add j 1]
  refine aw_sldN q_L_law_839 (by omega) hs ?_
  refine aw_V1 q_L_law_840 st_L_103 rfl (by omega) (Nat.le_of_ble_eq_true rfl) g2 ?_
  refine aw_icmp_eq 1065 q_L_law_843 rfl (fun c843 => ?_) (fun c843 => ?_)
  · skip
    exact g
  · skip
    exact absurd rfl c843
theorem lw_backlog (sc : am_S) (hs : sc.1 ≤ 3585) (A : ST) (q : QS) (t : TS) (i : INV A q) (j : Nat) (hj : j + 7 ≤ sc.1) (ih : ∀ (A2 : ST) (q2 : QS) (t2 : TS), INV A2 q2 → ∃ (A3 : ST) (q3 : QS) (t3 : TS), AW sc m_L_law 60 1065 [some (.ref 0), some (.ref 1), some (.ref 50), some (.int (nI j))] [] (hp A2 q2 A2 t2) (some (.int 1)) (hp A3 q3 A3 t3)) : ∃ (A3 : ST) (q3 : QS) (t3 : TS), AW sc m_L_law 60 848 [some (.ref 0), some (.ref 1), some (.ref 50), some (.int (nI j))] [] (hp A q A t) (some (.int 1)) (hp A3 q3 A3 t3) := by
  obtain ⟨v, A1, q1, A2, q2, t2, g1, g2, i2⟩ := p_backlog sc (sc.2 (j + 1)) i t
  obtain ⟨A3, q3, t3, g⟩ := ih A2 q2 t2 i2
  refine ⟨A3, q3, t3, ?_⟩
  refine aw_aload_n 1 q_L_law_848 rfl rfl ?_
  refine aw_aload_n 0 q_L_law_849 rfl rfl ?_
  refine aw_iload_n 3 q_L_law_850 rfl rfl ?_
  refine aw_iconst 1 q_L_law_851 rfl ?_
  refine aw_iadd q_L_law_852 ?_
  rw [show nI j + 1 = nI (j + 1) from nI_add j 1]
  refine aw_sldN q_L_law_853 (by omega) hs ?_
  refine aw_V1 q_L_law_854 st_L_104 rfl (by omega) (Nat.le_of_ble_eq_true rfl) g1 ?_
  refine aw_aload_n 2 q_L_law_857 rfl rfl ?_
  refine aw_aload_n 0 q_L_law_858 rfl rfl ?_
  refine aw_iload_n 3 q_L_law_859 rfl rfl ?_
  refine aw_iconst 1 q_L_law_860 rfl ?_
  refine aw_iadd q_L_law_861 ?_
  rw [show nI j + 1 = nI (j + 1) from nI_add j 1]
  refine aw_sldN q_L_law_862 (by omega) hs ?_
  refine aw_V1 q_L_law_863 st_L_107 rfl (by omega) (Nat.le_of_ble_eq_true rfl) g2 ?_
  refine aw_lcmp_eq 1065 q_L_law_866 q_L_law_867 rfl (fun c866 => ?_) (fun c866 => ?_)
  · skip
    exact g
  · skip
    exact absurd rfl c866
theorem lw_rank (sc : am_S) (hs : sc.1 ≤ 3585) (A : ST) (q : QS) (t : TS) (i : INV A q) (j : Nat) (hj : j + 7 ≤ sc.1) (ih : ∀ (A2 : ST) (q2 : QS) (t2 : TS), INV A2 q2 → ∃ (A3 : ST) (q3 : QS) (t3 : TS), AW sc m_L_law 60 1065 [some (.ref 0), some (.ref 1), some (.ref 50), some (.int (nI j))] [] (hp A2 q2 A2 t2) (some (.int 1)) (hp A3 q3 A3 t3)) : ∃ (A3 : ST) (q3 : QS) (t3 : TS), AW sc m_L_law 60 872 [some (.ref 0), some (.ref 1), some (.ref 50), some (.int (nI j))] [] (hp A q A t) (some (.int 1)) (hp A3 q3 A3 t3) := by
  obtain ⟨v, A1, q1, A2, q2, t2, g1, g2, i2⟩ := p_rank sc (sc.2 (j + 1)) i t
  obtain ⟨A3, q3, t3, g⟩ := ih A2 q2 t2 i2
  refine ⟨A3, q3, t3, ?_⟩
  refine aw_aload_n 1 q_L_law_872 rfl rfl ?_
  refine aw_aload_n 0 q_L_law_873 rfl rfl ?_
  refine aw_iload_n 3 q_L_law_874 rfl rfl ?_
  refine aw_iconst 1 q_L_law_875 rfl ?_
  refine aw_iadd q_L_law_876 ?_
  rw [show nI j + 1 = nI (j + 1) from nI_add j 1]
  refine aw_sldN q_L_law_877 (by omega) hs ?_
  refine aw_V1 q_L_law_878 st_L_108 rfl (by omega) (Nat.le_of_ble_eq_true rfl) g1 ?_
  refine aw_aload_n 2 q_L_law_881 rfl rfl ?_
  refine aw_aload_n 0 q_L_law_882 rfl rfl ?_
  refine aw_iload_n 3 q_L_law_883 rfl rfl ?_
  refine aw_iconst 1 q_L_law_884 rfl ?_
  refine aw_iadd q_L_law_885 ?_
  rw [show nI j + 1 = nI (j + 1) from nI_add j 1]
  refine aw_sldN q_L_law_886 (by omega) hs ?_
  refine aw_V1 q_L_law_887 st_L_111 rfl (by omega) (Nat.le_of_ble_eq_true rfl) g2 ?_
  refine aw_icmp_eq 1065 q_L_law_890 rfl (fun c890 => ?_) (fun c890 => ?_)
  · skip
    exact g
  · skip
    exact absurd rfl c890
theorem lw_share (sc : am_S) (hs : sc.1 ≤ 3585) (A : ST) (q : QS) (t : TS) (i : INV A q) (j : Nat) (hj : j + 7 ≤ sc.1) (ih : ∀ (A2 : ST) (q2 : QS) (t2 : TS), INV A2 q2 → ∃ (A3 : ST) (q3 : QS) (t3 : TS), AW sc m_L_law 60 1065 [some (.ref 0), some (.ref 1), some (.ref 50), some (.int (nI j))] [] (hp A2 q2 A2 t2) (some (.int 1)) (hp A3 q3 A3 t3)) : ∃ (A3 : ST) (q3 : QS) (t3 : TS), AW sc m_L_law 60 895 [some (.ref 0), some (.ref 1), some (.ref 50), some (.int (nI j))] [] (hp A q A t) (some (.int 1)) (hp A3 q3 A3 t3) := by
  obtain ⟨v, A1, q1, A2, q2, t2, g1, g2, i2⟩ := p_share sc (sc.2 (j + 1)) (sc.2 (j + 2)) i t
  obtain ⟨A3, q3, t3, g⟩ := ih A2 q2 t2 i2
  refine ⟨A3, q3, t3, ?_⟩
  refine aw_aload_n 1 q_L_law_895 rfl rfl ?_
  refine aw_aload_n 0 q_L_law_896 rfl rfl ?_
  refine aw_iload_n 3 q_L_law_897 rfl rfl ?_
  refine aw_iconst 1 q_L_law_898 rfl ?_
  refine aw_iadd q_L_law_899 ?_
  rw [show nI j + 1 = nI (j + 1) from nI_add j 1]
  refine aw_sldN q_L_law_900 (by omega) hs ?_
  refine aw_aload_n 0 q_L_law_901 rfl rfl ?_
  refine aw_iload_n 3 q_L_law_902 rfl rfl ?_
  refine aw_iconst 2 q_L_law_903 rfl ?_
  refine aw_iadd q_L_law_904 ?_
  rw [show nI j + 2 = nI (j + 2) from nI_add j 2]
  refine aw_sldN q_L_law_905 (by omega) hs ?_
  refine aw_V2 q_L_law_906 st_L_112 rfl (by omega) (Nat.le_of_ble_eq_true rfl) g1 ?_
  refine aw_aload_n 2 q_L_law_909 rfl rfl ?_
  refine aw_aload_n 0 q_L_law_910 rfl rfl ?_
  refine aw_iload_n 3 q_L_law_911 rfl rfl ?_
  refine aw_iconst 1 q_L_law_912 rfl ?_
  refine aw_iadd q_L_law_913 ?_
  rw [show nI j + 1 = nI (j + 1) from nI_add j 1]
  refine aw_sldN q_L_law_914 (by omega) hs ?_
  refine aw_aload_n 0 q_L_law_915 rfl rfl ?_
  refine aw_iload_n 3 q_L_law_916 rfl rfl ?_
  refine aw_iconst 2 q_L_law_917 rfl ?_
  refine aw_iadd q_L_law_918 ?_
  rw [show nI j + 2 = nI (j + 2) from nI_add j 2]
  refine aw_sldN q_L_law_919 (by omega) hs ?_
  refine aw_V2 q_L_law_920 st_L_115 rfl (by omega) (Nat.le_of_ble_eq_true rfl) g2 ?_
  refine aw_lcmp_eq 1065 q_L_law_923 q_L_law_924 rfl (fun c923 => ?_) (fun c923 => ?_)
  · skip
    exact g
  · skip
    exact absurd rfl c923
theorem lw_policy (sc : am_S) (hs : sc.1 ≤ 3585) (A : ST) (q : QS) (t : TS) (i : INV A q) (j : Nat) (hj : j + 7 ≤ sc.1) (ih : ∀ (A2 : ST) (q2 : QS) (t2 : TS), INV A2 q2 → ∃ (A3 : ST) (q3 : QS) (t3 : TS), AW sc m_L_law 60 1065 [some (.ref 0), some (.ref 1), some (.ref 50), some (.int (nI j))] [] (hp A2 q2 A2 t2) (some (.int 1)) (hp A3 q3 A3 t3)) : ∃ (A3 : ST) (q3 : QS) (t3 : TS), AW sc m_L_law 60 929 [some (.ref 0), some (.ref 1), some (.ref 50), some (.int (nI j))] [] (hp A q A t) (some (.int 1)) (hp A3 q3 A3 t3) := by
  obtain ⟨v, A1, q1, A2, q2, t2, g1, g2, i2⟩ := p_policy sc (sc.2 (j + 1)) i t
  obtain ⟨A3, q3, t3, g⟩ := ih A2 q2 t2 i2
  refine ⟨A3, q3, t3, ?_⟩
  refine aw_aload_n 1 q_L_law_929 rfl rfl ?_
  refine aw_aload_n 0 q_L_law_930 rfl rfl ?_
  refine aw_iload_n 3 q_L_law_931 rfl rfl ?_
  refine aw_iconst 1 q_L_law_932 rfl ?_
  refine aw_iadd q_L_law_933 ?_
  rw [show nI j + 1 = nI (j + 1) from nI_add j 1]
  refine aw_sldN q_L_law_934 (by omega) hs ?_
  refine aw_V1 q_L_law_935 st_L_116 rfl (by omega) (Nat.le_of_ble_eq_true rfl) g1 ?_
  refine aw_aload_n 2 q_L_law_938 rfl rfl ?_
  refine aw_aload_n 0 q_L_law_939 rfl rfl ?_
  refine aw_iload_n 3 q_L_law_940 rfl rfl ?_
  refine aw_iconst 1 q_L_law_941 rfl ?_
  refine aw_iadd q_L_law_942 ?_
  rw [show nI j + 1 = nI (j + 1) from nI_add j 1]
  refine aw_sldN q_L_law_943 (by omega) hs ?_
  refine aw_V1 q_L_law_944 st_L_119 rfl (by omega) (Nat.le_of_ble_eq_true rfl) g2 ?_
  refine aw_icmp_eq 1065 q_L_law_947 rfl (fun c947 => ?_) (fun c947 => ?_)
  · skip
    exact g
  · skip
    exact absurd rfl c947
theorem lw_compare (sc : am_S) (hs : sc.1 ≤ 3585) (A : ST) (q : QS) (t : TS) (i : INV A q) (j : Nat) (hj : j + 7 ≤ sc.1) (ih : ∀ (A2 : ST) (q2 : QS) (t2 : TS), INV A2 q2 → ∃ (A3 : ST) (q3 : QS) (t3 : TS), AW sc m_L_law 60 1065 [some (.ref 0), some (.ref 1), some (.ref 50), some (.int (nI j))] [] (hp A2 q2 A2 t2) (some (.int 1)) (hp A3 q3 A3 t3)) : ∃ (A3 : ST) (q3 : QS) (t3 : TS), AW sc m_L_law 60 952 [some (.ref 0), some (.ref 1), some (.ref 50), some (.int (nI j))] [] (hp A q A t) (some (.int 1)) (hp A3 q3 A3 t3) := by
  obtain ⟨v, A1, q1, A2, q2, t2, g1, g2, i2⟩ := p_compare sc (sc.2 (j + 1)) (sc.2 (j + 2)) i t
  obtain ⟨A3, q3, t3, g⟩ := ih A2 q2 t2 i2
  refine ⟨A3, q3, t3, ?_⟩
  refine aw_aload_n 1 q_L_law_952 rfl rfl ?_
  refine aw_aload_n 0 q_L_law_953 rfl rfl ?_
  refine aw_iload_n 3 q_L_law_954 rfl rfl ?_
  refine aw_iconst 1 q_L_law_955 rfl ?_
  refine aw_iadd q_L_law_956 ?_
  rw [show nI j + 1 = nI (j + 1) from nI_add j 1]
  refine aw_sldN q_L_law_957 (by omega) hs ?_
  refine aw_aload_n 0 q_L_law_958 rfl rfl ?_
  refine aw_iload_n 3 q_L_law_959 rfl rfl ?_
  refine aw_iconst 2 q_L_law_960 rfl ?_
  refine aw_iadd q_L_law_961 ?_
  rw [show nI j + 2 = nI (j + 2) from nI_add j 2]
  refine aw_sldN q_L_law_962 (by omega) hs ?_
  refine aw_V2 q_L_law_963 st_L_120 rfl (by omega) (Nat.le_of_ble_eq_true rfl) g1 ?_
  refine aw_aload_n 2 q_L_law_966 rfl rfl ?_
  refine aw_aload_n 0 q_L_law_967 rfl rfl ?_
  refine aw_iload_n 3 q_L_law_968 rfl rfl ?_
  refine aw_iconst 1 q_L_law_969 rfl ?_
  refine aw_iadd q_L_law_970 ?_
  rw [show nI j + 1 = nI (j + 1) from nI_add j 1]
  refine aw_sldN q_L_law_971 (by omega) hs ?_
  refine aw_aload_n 0 q_L_law_972 rfl rfl ?_
  refine aw_iload_n 3 q_L_law_973 rfl rfl ?_
  refine aw_iconst 2 q_L_law_974 rfl ?_
  refine aw_iadd q_L_law_975 ?_
  rw [show nI j + 2 = nI (j + 2) from nI_add j 2]
  refine aw_sldN q_L_law_976 (by omega) hs ?_
  refine aw_V2 q_L_law_977 st_L_123 rfl (by omega) (Nat.le_of_ble_eq_true rfl) g2 ?_
  refine aw_lcmp_eq 1065 q_L_law_980 q_L_law_981 rfl (fun c980 => ?_) (fun c980 => ?_)
  · skip
    exact g
  · skip
    exact absurd rfl c980
theorem lw_list (sc : am_S) (hs : sc.1 ≤ 3585) (A : ST) (q : QS) (t : TS) (i : INV A q) (j : Nat) (hj : j + 7 ≤ sc.1) (ih : ∀ (A2 : ST) (q2 : QS) (t2 : TS), INV A2 q2 → ∃ (A3 : ST) (q3 : QS) (t3 : TS), AW sc m_L_law 60 1065 [some (.ref 0), some (.ref 1), some (.ref 50), some (.int (nI j))] [] (hp A2 q2 A2 t2) (some (.int 1)) (hp A3 q3 A3 t3)) : ∃ (A3 : ST) (q3 : QS) (t3 : TS), AW sc m_L_law 60 986 [some (.ref 0), some (.ref 1), some (.ref 50), some (.int (nI j))] [] (hp A q A t) (some (.int 1)) (hp A3 q3 A3 t3) := by
  obtain ⟨v, A1, q1, A2, q2, t2, g1, g2, i2⟩ := p_list sc (sc.2 (j + 1)) (sc.2 (j + 2)) i t
  obtain ⟨A3, q3, t3, g⟩ := ih A2 q2 t2 i2
  refine ⟨A3, q3, t3, ?_⟩
  refine aw_aload_n 1 q_L_law_986 rfl rfl ?_
  refine aw_aload_n 0 q_L_law_987 rfl rfl ?_
  refine aw_iload_n 3 q_L_law_988 rfl rfl ?_
  refine aw_iconst 1 q_L_law_989 rfl ?_
  refine aw_iadd q_L_law_990 ?_
  rw [show nI j + 1 = nI (j + 1) from nI_add j 1]
  refine aw_sldN q_L_law_991 (by omega) hs ?_
  refine aw_aload_n 0 q_L_law_992 rfl rfl ?_
  refine aw_iload_n 3 q_L_law_993 rfl rfl ?_
  refine aw_iconst 2 q_L_law_994 rfl ?_
  refine aw_iadd q_L_law_995 ?_
  rw [show nI j + 2 = nI (j + 2) from nI_add j 2]
  refine aw_sldN q_L_law_996 (by omega) hs ?_
  refine aw_V2 q_L_law_997 st_L_124 rfl (by omega) (Nat.le_of_ble_eq_true rfl) g1 ?_
  refine aw_aload_n 2 q_L_law_1000 rfl rfl ?_
  refine aw_aload_n 0 q_L_law_1001 rfl rfl ?_
  refine aw_iload_n 3 q_L_law_1002 rfl rfl ?_
  refine aw_iconst 1 q_L_law_1003 rfl ?_
  refine aw_iadd q_L_law_1004 ?_
  rw [show nI j + 1 = nI (j + 1) from nI_add j 1]
  refine aw_sldN q_L_law_1005 (by omega) hs ?_
  refine aw_aload_n 0 q_L_law_1006 rfl rfl ?_
  refine aw_iload_n 3 q_L_law_1007 rfl rfl ?_
  refine aw_iconst 2 q_L_law_1008 rfl ?_
  refine aw_iadd q_L_law_1009 ?_
  rw [show nI j + 2 = nI (j + 2) from nI_add j 2]
  refine aw_sldN q_L_law_1010 (by omega) hs ?_
  refine aw_V2 q_L_law_1011 st_L_128 rfl (by omega) (Nat.le_of_ble_eq_true rfl) g2 ?_
  refine aw_icmp_eq 1065 q_L_law_1014 rfl (fun c1014 => ?_) (fun c1014 => ?_)
  · skip
    exact g
  · skip
    exact absurd rfl c1014
theorem lw_earlier (sc : am_S) (hs : sc.1 ≤ 3585) (A : ST) (q : QS) (t : TS) (i : INV A q) (j : Nat) (hj : j + 7 ≤ sc.1) (ih : ∀ (A2 : ST) (q2 : QS) (t2 : TS), INV A2 q2 → ∃ (A3 : ST) (q3 : QS) (t3 : TS), AW sc m_L_law 60 1065 [some (.ref 0), some (.ref 1), some (.ref 50), some (.int (nI j))] [] (hp A2 q2 A2 t2) (some (.int 1)) (hp A3 q3 A3 t3)) : ∃ (A3 : ST) (q3 : QS) (t3 : TS), AW sc m_L_law 60 1019 [some (.ref 0), some (.ref 1), some (.ref 50), some (.int (nI j))] [] (hp A q A t) (some (.int 1)) (hp A3 q3 A3 t3) := by
  obtain ⟨v, A1, q1, A2, q2, t2, g1, g2, i2⟩ := p_earlier sc (sc.2 (j + 1)) i t
  obtain ⟨A3, q3, t3, g⟩ := ih A2 q2 t2 i2
  refine ⟨A3, q3, t3, ?_⟩
  refine aw_aload_n 1 q_L_law_1019 rfl rfl ?_
  refine aw_aload_n 0 q_L_law_1020 rfl rfl ?_
  refine aw_iload_n 3 q_L_law_1021 rfl rfl ?_
  refine aw_iconst 1 q_L_law_1022 rfl ?_
  refine aw_iadd q_L_law_1023 ?_
  rw [show nI j + 1 = nI (j + 1) from nI_add j 1]
  refine aw_sldN q_L_law_1024 (by omega) hs ?_
  refine aw_V1 q_L_law_1025 st_L_129 rfl (by omega) (Nat.le_of_ble_eq_true rfl) g1 ?_
  refine aw_aload_n 2 q_L_law_1028 rfl rfl ?_
  refine aw_aload_n 0 q_L_law_1029 rfl rfl ?_
  refine aw_iload_n 3 q_L_law_1030 rfl rfl ?_
  refine aw_iconst 1 q_L_law_1031 rfl ?_
  refine aw_iadd q_L_law_1032 ?_
  rw [show nI j + 1 = nI (j + 1) from nI_add j 1]
  refine aw_sldN q_L_law_1033 (by omega) hs ?_
  refine aw_V1 q_L_law_1034 st_L_132 rfl (by omega) (Nat.le_of_ble_eq_true rfl) g2 ?_
  refine aw_icmp_eq 1065 q_L_law_1037 rfl (fun c1037 => ?_) (fun c1037 => ?_)
  · skip
    exact g
  · skip
    exact absurd rfl c1037
theorem lw_holds (sc : am_S) (hs : sc.1 ≤ 3585) (A : ST) (q : QS) (t : TS) (i : INV A q) (j : Nat) (hj : j + 7 ≤ sc.1) (ih : ∀ (A2 : ST) (q2 : QS) (t2 : TS), INV A2 q2 → ∃ (A3 : ST) (q3 : QS) (t3 : TS), AW sc m_L_law 60 1065 [some (.ref 0), some (.ref 1), some (.ref 50), some (.int (nI j))] [] (hp A2 q2 A2 t2) (some (.int 1)) (hp A3 q3 A3 t3)) : ∃ (A3 : ST) (q3 : QS) (t3 : TS), AW sc m_L_law 60 1042 [some (.ref 0), some (.ref 1), some (.ref 50), some (.int (nI j))] [] (hp A q A t) (some (.int 1)) (hp A3 q3 A3 t3) := by
  obtain ⟨v, A1, q1, A2, q2, t2, g1, g2, i2⟩ := p_holds sc (sc.2 (j + 1)) i t
  obtain ⟨A3, q3, t3, g⟩ := ih A2 q2 t2 i2
  refine ⟨A3, q3, t3, ?_⟩
  refine aw_aload_n 1 q_L_law_1042 rfl rfl ?_
  refine aw_aload_n 0 q_L_law_1043 rfl rfl ?_
  refine aw_iload_n 3 q_L_law_1044 rfl rfl ?_
  refine aw_iconst 1 q_L_law_1045 rfl ?_
  refine aw_iadd q_L_law_1046 ?_
  rw [show nI j + 1 = nI (j + 1) from nI_add j 1]
  refine aw_sldN q_L_law_1047 (by omega) hs ?_
  refine aw_V1 q_L_law_1048 st_L_133 rfl (by omega) (Nat.le_of_ble_eq_true rfl) g1 ?_
  refine aw_aload_n 2 q_L_law_1051 rfl rfl ?_
  refine aw_aload_n 0 q_L_law_1052 rfl rfl ?_
  refine aw_iload_n 3 q_L_law_1053 rfl rfl ?_
  refine aw_iconst 1 q_L_law_1054 rfl ?_
  refine aw_iadd q_L_law_1055 ?_
  rw [show nI j + 1 = nI (j + 1) from nI_add j 1]
  refine aw_sldN q_L_law_1056 (by omega) hs ?_
  refine aw_V1 q_L_law_1057 st_L_136 rfl (by omega) (Nat.le_of_ble_eq_true rfl) g2 ?_
  refine aw_icmp_eq 1065 q_L_law_1060 rfl (fun c1060 => ?_) (fun c1060 => ?_)
  · skip
    exact g
  · skip
    exact absurd rfl c1060
theorem sw_in {x : Int32} : ∃ k : Nat, k < 32 ∧ x &&& 31 = nI k := by
  refine ⟨(x &&& 31).toNatClampNeg, ?_, ?_⟩
  · have : (x.toBitVec &&& 31#32).toNat ≤ 31 := by
      rw [BitVec.toNat_and]
      exact Nat.and_le_right
    have h0 : (x &&& 31).toBitVec = x.toBitVec &&& 31#32 := rfl
    have h1 : (x &&& 31).toInt = ((x.toBitVec &&& 31#32).toNat : Int) := by
      show (x &&& 31).toBitVec.toInt = _
      rw [h0, BitVec.toInt_eq_toNat_of_lt (by omega)]
    show (x &&& 31).toInt.toNat < 32
    rw [h1]
    omega
  · have : (x.toBitVec &&& 31#32).toNat ≤ 31 := by
      rw [BitVec.toNat_and]
      exact Nat.and_le_right
    have h0 : (x &&& 31).toBitVec = x.toBitVec &&& 31#32 := rfl
    have h1 : (x &&& 31).toInt = ((x.toBitVec &&& 31#32).toNat : Int) := by
      show (x &&& 31).toBitVec.toInt = _
      rw [h0, BitVec.toInt_eq_toNat_of_lt (by omega)]
    have h2 : ¬ (x &&& 31) < 0 := by
      rw [Int32.lt_iff_toInt_lt, h1, show (0 : Int32).toInt = 0 from rfl]
      omega
    obtain ⟨c, hc, e⟩ := nI_of (x := x &&& 31) (by simpa using h2)
    rw [e, nI_clamp hc]
theorem m7 {L : Nat} (h : L ≤ 3585) : (nI L - 7).toInt = (L : Int) - 7 := by
  have e : nI L - 7 = Int32.ofInt ((L : Int) - 7) := by
    rw [Int32.ofInt_sub]
    rfl
  rw [e]
  exact Int32.toInt_ofInt_of_le (by omega) (by omega)
theorem lw_sw (sc : am_S) (hs : sc.1 ≤ 3585) (A : ST) (q : QS) (t : TS) (i : INV A q) (j : Nat) (hj : j + 7 ≤ sc.1) (ih : ∀ (A2 : ST) (q2 : QS) (t2 : TS), INV A2 q2 → ∃ (A3 : ST) (q3 : QS) (t3 : TS), AW sc m_L_law 60 1065 [some (.ref 0), some (.ref 1), some (.ref 50), some (.int (nI j))] [] (hp A2 q2 A2 t2) (some (.int 1)) (hp A3 q3 A3 t3)) : ∃ (A3 : ST) (q3 : QS) (t3 : TS), AW sc m_L_law 60 43 [some (.ref 0), some (.ref 1), some (.ref 50), some (.int (nI j))] [.int (sc.2 j &&& 31)] (hp A q A t) (some (.int 1)) (hp A3 q3 A3 t3) := by
  obtain ⟨k, hk, e⟩ := sw_in (x := sc.2 j)
  rw [e]
  have ei : (nI k).toInt = (k : Int) := nI_toInt (by omega)
  by_cases h : k < 25
  · rcases (show k = 0 ∨ k = 1 ∨ k = 2 ∨ k = 3 ∨ k = 4 ∨ k = 5 ∨ k = 6 ∨ k = 7 ∨ k = 8 ∨ k = 9 ∨ k = 10 ∨ k = 11 ∨ k = 12 ∨ k = 13 ∨ k = 14 ∨ k = 15 ∨ k = 16 ∨ k = 17 ∨ k = 18 ∨ k = 19 ∨ k = 20 ∨ k = 21 ∨ k = 22 ∨ k = 23 ∨ k = 24 by omega) with rfl | rfl | rfl | rfl | rfl | rfl | rfl | rfl | rfl | rfl | rfl | rfl | rfl | rfl | rfl | rfl | rfl | rfl | rfl | rfl | rfl | rfl | rfl | rfl | rfl
    · obtain ⟨A3, q3, t3, g⟩ := lw_thing sc hs A q t i j hj ih
      exact ⟨A3, q3, t3, aw_tableIn 156 q_L_law_43 (by rw [ei]; decide) (by rw [ei]; decide) (by rw [ei]; rfl) rfl g⟩
    · obtain ⟨A3, q3, t3, g⟩ := lw_choice sc hs A q t i j hj ih
      exact ⟨A3, q3, t3, aw_tableIn 179 q_L_law_43 (by rw [ei]; decide) (by rw [ei]; decide) (by rw [ei]; rfl) rfl g⟩
    · obtain ⟨A3, q3, t3, g⟩ := lw_must sc hs A q t i j hj ih
      exact ⟨A3, q3, t3, aw_tableIn 294 q_L_law_43 (by rw [ei]; decide) (by rw [ei]; decide) (by rw [ei]; rfl) rfl g⟩
    · obtain ⟨A3, q3, t3, g⟩ := lw_budget sc hs A q t i j hj ih
      exact ⟨A3, q3, t3, aw_tableIn 317 q_L_law_43 (by rw [ei]; decide) (by rw [ei]; decide) (by rw [ei]; rfl) rfl g⟩
    · obtain ⟨A3, q3, t3, g⟩ := lw_join sc hs A q t i j hj ih
      exact ⟨A3, q3, t3, aw_tableIn 380 q_L_law_43 (by rw [ei]; decide) (by rw [ei]; decide) (by rw [ei]; rfl) rfl g⟩
    · obtain ⟨A3, q3, t3, g⟩ := lw_district sc hs A q t i j hj ih
      exact ⟨A3, q3, t3, aw_tableIn 453 q_L_law_43 (by rw [ei]; decide) (by rw [ei]; decide) (by rw [ei]; rfl) rfl g⟩
    · obtain ⟨A3, q3, t3, g⟩ := lw_fair sc hs A q t i j hj ih
      exact ⟨A3, q3, t3, aw_tableIn 486 q_L_law_43 (by rw [ei]; decide) (by rw [ei]; decide) (by rw [ei]; rfl) rfl g⟩
    · obtain ⟨A3, q3, t3, g⟩ := lw_run sc hs A q t i j hj ih
      exact ⟨A3, q3, t3, aw_tableIn 539 q_L_law_43 (by rw [ei]; decide) (by rw [ei]; decide) (by rw [ei]; rfl) rfl g⟩
    · obtain ⟨A3, q3, t3, g⟩ := lw_chosen sc hs A q t i j hj ih
      exact ⟨A3, q3, t3, aw_tableIn 592 q_L_law_43 (by rw [ei]; decide) (by rw [ei]; decide) (by rw [ei]; rfl) rfl g⟩
    · obtain ⟨A3, q3, t3, g⟩ := lw_worth sc hs A q t i j hj ih
      exact ⟨A3, q3, t3, aw_tableIn 615 q_L_law_43 (by rw [ei]; decide) (by rw [ei]; decide) (by rw [ei]; rfl) rfl g⟩
    · obtain ⟨A3, q3, t3, g⟩ := lw_bound sc hs A q t i j hj ih
      exact ⟨A3, q3, t3, aw_tableIn 629 q_L_law_43 (by rw [ei]; decide) (by rw [ei]; decide) (by rw [ei]; rfl) rfl g⟩
    · obtain ⟨A3, q3, t3, g⟩ := lw_clash sc hs A q t i j hj ih
      exact ⟨A3, q3, t3, aw_tableIn 653 q_L_law_43 (by rw [ei]; decide) (by rw [ei]; decide) (by rw [ei]; rfl) rfl g⟩
    · obtain ⟨A3, q3, t3, g⟩ := lw_proved sc hs A q t i j hj ih
      exact ⟨A3, q3, t3, aw_tableIn 676 q_L_law_43 (by rw [ei]; decide) (by rw [ei]; decide) (by rw [ei]; rfl) rfl g⟩
    · obtain ⟨A3, q3, t3, g⟩ := lw_price sc hs A q t i j hj ih
      exact ⟨A3, q3, t3, aw_tableIn 689 q_L_law_43 (by rw [ei]; decide) (by rw [ei]; decide) (by rw [ei]; rfl) rfl g⟩
    · obtain ⟨A3, q3, t3, g⟩ := lw_old sc hs A q t i j hj ih
      exact ⟨A3, q3, t3, aw_tableIn 723 q_L_law_43 (by rw [ei]; decide) (by rw [ei]; decide) (by rw [ei]; rfl) rfl g⟩
    · obtain ⟨A3, q3, t3, g⟩ := lw_changes sc hs A q t i j hj ih
      exact ⟨A3, q3, t3, aw_tableIn 772 q_L_law_43 (by rw [ei]; decide) (by rw [ei]; decide) (by rw [ei]; rfl) rfl g⟩
    · obtain ⟨A3, q3, t3, g⟩ := lw_changed sc hs A q t i j hj ih
      exact ⟨A3, q3, t3, aw_tableIn 825 q_L_law_43 (by rw [ei]; decide) (by rw [ei]; decide) (by rw [ei]; rfl) rfl g⟩
    · obtain ⟨A3, q3, t3, g⟩ := lw_backlog sc hs A q t i j hj ih
      exact ⟨A3, q3, t3, aw_tableIn 848 q_L_law_43 (by rw [ei]; decide) (by rw [ei]; decide) (by rw [ei]; rfl) rfl g⟩
    · obtain ⟨A3, q3, t3, g⟩ := lw_rank sc hs A q t i j hj ih
      exact ⟨A3, q3, t3, aw_tableIn 872 q_L_law_43 (by rw [ei]; decide) (by rw [ei]; decide) (by rw [ei]; rfl) rfl g⟩
    · obtain ⟨A3, q3, t3, g⟩ := lw_share sc hs A q t i j hj ih
      exact ⟨A3, q3, t3, aw_tableIn 895 q_L_law_43 (by rw [ei]; decide) (by rw [ei]; decide) (by rw [ei]; rfl) rfl g⟩
    · obtain ⟨A3, q3, t3, g⟩ := lw_policy sc hs A q t i j hj ih
      exact ⟨A3, q3, t3, aw_tableIn 929 q_L_law_43 (by rw [ei]; decide) (by rw [ei]; decide) (by rw [ei]; rfl) rfl g⟩
    · obtain ⟨A3, q3, t3, g⟩ := lw_compare sc hs A q t i j hj ih
      exact ⟨A3, q3, t3, aw_tableIn 952 q_L_law_43 (by rw [ei]; decide) (by rw [ei]; decide) (by rw [ei]; rfl) rfl g⟩
    · obtain ⟨A3, q3, t3, g⟩ := lw_list sc hs A q t i j hj ih
      exact ⟨A3, q3, t3, aw_tableIn 986 q_L_law_43 (by rw [ei]; decide) (by rw [ei]; decide) (by rw [ei]; rfl) rfl g⟩
    · obtain ⟨A3, q3, t3, g⟩ := lw_earlier sc hs A q t i j hj ih
      exact ⟨A3, q3, t3, aw_tableIn 1019 q_L_law_43 (by rw [ei]; decide) (by rw [ei]; decide) (by rw [ei]; rfl) rfl g⟩
    · obtain ⟨A3, q3, t3, g⟩ := lw_holds sc hs A q t i j hj ih
      exact ⟨A3, q3, t3, aw_tableIn 1042 q_L_law_43 (by rw [ei]; decide) (by rw [ei]; decide) (by rw [ei]; rfl) rfl g⟩
  · obtain ⟨A3, q3, t3, g⟩ := ih A q t i
    exact ⟨A3, q3, t3, aw_tableOut 1065 q_L_law_43 (Or.inr (by rw [ei]; omega)) rfl g⟩
theorem lw_loop (sc : am_S) (hs : sc.1 ≤ 3585) : ∀ (n j : Nat), sc.1 + 7 - j = n → 1 ≤ j → j ≤ 4000 → ∀ (A : ST) (q : QS) (t : TS), INV A q → ∃ (A3 : ST) (q3 : QS) (t3 : TS), AW sc m_L_law 60 28 [some (.ref 0), some (.ref 1), some (.ref 50), some (.int (nI j))] [] (hp A q A t) (some (.int 1)) (hp A3 q3 A3 t3) := by
  intro n
  induction n using Nat.strongRecOn with
  | _ n ihn =>
    intro j hn hj1 hj4 A q t i
    have e7 := m7 hs
    have ej : (nI j).toInt = (j : Int) := nI_toInt (by omega)
    by_cases hj : j + 7 ≤ sc.1
    · have ih : ∀ (A2 : ST) (q2 : QS) (t2 : TS), INV A2 q2 → ∃ (A3 : ST) (q3 : QS) (t3 : TS), AW sc m_L_law 60 1065 [some (.ref 0), some (.ref 1), some (.ref 50), some (.int (nI j))] [] (hp A2 q2 A2 t2) (some (.int 1)) (hp A3 q3 A3 t3) := by
        intro A2 q2 t2 i2
        obtain ⟨A3, q3, t3, g⟩ := ihn (sc.1 + 7 - (j + 7)) (by omega) (j + 7) rfl (by omega) (by omega) A2 q2 t2 i2
        refine ⟨A3, q3, t3, ?_⟩
        refine aw_iinc _ q_L_law_1065 rfl (nI_add j 7) rfl rfl ?_
        exact aw_goto 28 q_L_law_1068 rfl g
      obtain ⟨A3, q3, t3, g⟩ := lw_sw sc hs A q t i j hj ih
      refine ⟨A3, q3, t3, ?_⟩
      refine aw_iload_n 3 q_L_law_28 rfl rfl ?_
      refine aw_aload_n 0 q_L_law_29 rfl rfl ?_
      refine aw_slen q_L_law_30 ?_
      refine aw_bipush 7 q_L_law_31 rfl ?_
      refine aw_isub q_L_law_33 ?_
      refine aw_icmp_gt 1071 q_L_law_34 rfl (fun c34 => ?_) (fun c34 => ?_)
      · exfalso
        rw [Int32.lt_iff_toInt_lt] at c34
        have c35 : (nI sc.1 - 7).toInt < (nI j).toInt := c34
        rw [e7, ej] at c35
        omega
      · refine aw_aload_n 0 q_L_law_37 rfl rfl ?_
        refine aw_iload_n 3 q_L_law_38 rfl rfl ?_
        refine aw_sldN q_L_law_39 (by omega) hs ?_
        refine aw_bipush 31 q_L_law_40 rfl ?_
        refine aw_iand q_L_law_42 ?_
        exact g
    · refine ⟨A, q, t, ?_⟩
      refine aw_iload_n 3 q_L_law_28 rfl rfl ?_
      refine aw_aload_n 0 q_L_law_29 rfl rfl ?_
      refine aw_slen q_L_law_30 ?_
      refine aw_bipush 7 q_L_law_31 rfl ?_
      refine aw_isub q_L_law_33 ?_
      refine aw_icmp_gt 1071 q_L_law_34 rfl (fun c34 => ?_) (fun c34 => ?_)
      · refine aw_iconst 1 q_L_law_1071 rfl ?_
        exact aw_iret .boolean q_L_law_1072 rfl rfl rfl rfl
      · exfalso
        apply c34
        rw [Int32.lt_iff_toInt_lt]
        show (nI sc.1 - 7).toInt < (nI j).toInt
        rw [e7, ej]
        omega
theorem c_L_cell (sc : am_S) (h : List am_C) (hs : sc.1 ≤ 3585) : AM sc m_L_cell 0 [.ref 0, .int 0] h (some (.int (c0v sc))) h := by
  refine AM.of (by decide) (Nat.le_of_ble_eq_true rfl) ?_
  show AW sc m_L_cell 0 0 [some (.ref 0), some (.int 0)] [] _ _ _
  refine aw_iload_n 1 q_L_cell_0 rfl rfl ?_
  refine aw_aload_n 0 q_L_cell_1 rfl rfl ?_
  refine aw_slen q_L_cell_2 ?_
  refine aw_icmp_ge 12 q_L_cell_3 rfl (fun c3 => ?_) (fun c3 => ?_)
  · refine aw_iconst 0 q_L_cell_12 rfl ?_
    refine aw_iret .int q_L_cell_13 rfl rfl ?_ rfl
    have h1 : sc.1 ≤ 0 := (nI_leI (a := sc.1) (b := 0) (by omega) (by omega)).mp c3
    unfold c0v
    rw [if_neg (by omega)]
  · have h1 : 0 < sc.1 := by
      have := mt (nI_leI (a := sc.1) (b := 0) (by omega) (by omega)).mpr c3
      omega
    refine aw_aload_n 0 q_L_cell_6 rfl rfl ?_
    refine aw_iload_n 1 q_L_cell_7 rfl rfl ?_
    refine aw_sldN (j := 0) q_L_cell_8 h1 hs ?_
    refine aw_goto 13 q_L_cell_9 rfl ?_
    refine aw_iret .int q_L_cell_13 rfl rfl ?_ rfl
    unfold c0v
    rw [if_pos h1]
theorem lw_all (sc : am_S) (hs : sc.1 ≤ 3585) : ∃ (A3 : ST) (q3 : QS) (t3 : TS), AW sc m_L_law 60 0 [some (.ref 0), none, none, none] [] [] (some (.int 1)) (hp A3 q3 A3 t3) := by
  have hb := ny0_b (c0v sc)
  obtain ⟨A3, q3, t3, g⟩ := lw_loop sc hs _ 1 rfl (by omega) (by omega) (A0 (ny0 (c0v sc))) q0 t0 (inv_0 hb.1 hb.2)
  refine ⟨A3, q3, t3, ?_⟩
  refine aw_new 0 q_L_law_0 fc_L_7 rfl ?_
  refine aw_dup q_L_law_3 rfl ?_
  refine aw_aload_n 0 q_L_law_4 rfl rfl ?_
  refine aw_iconst 0 q_L_law_5 rfl ?_
  refine aw_S2 q_L_law_6 st_L_9 (by omega) (Nat.le_of_ble_eq_true rfl) (c_L_cell _ _ hs) ?_
  refine aw_I1 q_L_law_9 st_L_15 (by omega) (Nat.le_of_ble_eq_true rfl) (c_B_init _ _) ?_
  refine aw_astore_n 1 q_L_law_12 rfl rfl rfl ?_
  refine aw_new 49 q_L_law_13 fc_L_18 rfl ?_
  refine aw_dup q_L_law_16 rfl ?_
  refine aw_aload_n 0 q_L_law_17 rfl rfl ?_
  refine aw_iconst 0 q_L_law_18 rfl ?_
  refine aw_S2 q_L_law_19 st_L_9 (by omega) (Nat.le_of_ble_eq_true rfl) (c_L_cell _ _ hs) ?_
  refine aw_I1 q_L_law_22 st_L_20 (by omega) (Nat.le_of_ble_eq_true rfl) (c_M_init _ _ _ _) ?_
  refine aw_astore_n 2 q_L_law_25 rfl rfl rfl ?_
  refine aw_iconst 1 q_L_law_26 rfl ?_
  refine aw_istore_n 3 q_L_law_27 rfl rfl rfl ?_
  exact g
