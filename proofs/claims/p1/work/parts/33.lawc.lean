/-! the law's cases (by gen_law.py) -/
abbrev m_L_law : mth := (yL_law, cL_law, 7, some .boolean)
def sc (D : va_G) (j : Int32) : Int32 := Int32.ofNat (D.2 103 j.toNatClampNeg)
def lv0 (D : va_G) (x m o : Nat) (i : Int32) : List (Nat × Value) := [(4, .int i), (3, .ref o), (2, .ref m), (1, .ref x), (0, .ref (D.2 102 0))]
theorem lg_self (a : Int64) : lg_cmp a a = 0 := by
  unfold lg_cmp
  first
    | (simp; done)
    | (rw [if_neg (by simp), if_neg (by simp)]; done)
    | (split <;> simp_all)
theorem z_nat : (0 : Int32).toNatClampNeg = 0 := by decide
section LA
variable {l : Launch} {D : va_G} {cy : Nat → ClassId} {μ : mth} {d rc rs : Nat} {P : Option Value → hp → Prop} {X : String → hp → Prop} {lv : List (Nat × Value)} {st : List Value} {h : hp}
theorem l_arg {k : Int} {v i : Int32} (p0 p4 pc : Nat) (d0 : decode μ.2.1 pc = .ok (.aload_n 0, 1)) (d1 : decode μ.2.1 (pc + 1) = .ok (.iload 4, 2)) (d2 : decode μ.2.1 (pc + 3) = .ok (.iconst k, 1)) (d3 : decode μ.2.1 (pc + 4) = .ok (.iadd, 1)) (d4 : decode μ.2.1 (pc + 5) = .ok (.iaload, 1)) (hk0 : lv[p0]? = some (0, .ref (D.2 102 0))) (hk4 : lv[p4]? = some (4, .int i)) (hv : Int32.ofInt k = v) (hin : vp_in (i + v) (D.2 102 1)) (kk : AW l D cy μ d rc rs P X (pc + 6) lv (.int (sc D (i + v)) :: st) h) : AW l D cy μ d rc rs P X pc lv st h := by
  refine a_aload_n p0 0 d0 rfl hk0 ?_
  refine a_iload (pc := pc + 1) p4 d1 hk4 ?_
  refine a_iconst (pc := pc + 3) (v := v) d2 hv ?_
  refine a_iadd (pc := pc + 4) d3 ?_
  exact a_sld (pc := pc + 5) d4 hin kk
end LA
set_option maxHeartbeats 4000000 in
theorem lw_0 {l : Launch} {D : va_G} {cy : Nat → ClassId} {N d rc rs : Nat} {P : Option Value → hp → Prop} {X : String → hp → Prop} {g : gp} (wt : WT g) (hl : l.stackTraces = false) (hd : 91 ≤ d) {x m o : Nat} {i : Int32} {δ : dp} (kx : q_K g x = 11) (km : q_K g m = 12) (ko : q_K g o = 14) (ho : q_N g o = 1) (hin : ∀ v : Int32, v ∈ [1, 2, 3, 4, 5] → vp_in (i + v) (D.2 102 1)) {b : Int32} {δ1 δ2 : dp} (h1 : D_X11_feed N g x (sc D (i + 1)) (sc D (i + 2)) (sc D (i + 3)) (sc D (i + 4)) (sc D (i + 5)) δ = some (b, δ1)) (h2 : D_X12_feed N g m (sc D (i + 1)) (sc D (i + 2)) (sc D (i + 3)) (sc D (i + 4)) (sc D (i + 5)) δ1 = some (b, δ2)) (K : AW l D cy m_L_law d rc rs P X 2457 (lv0 D x m o i) [] (g, δ2)) : AW l D cy m_L_law d (rc + 3) (rs + 18) P X 196 (lv0 D x m o i) [] (g, δ) := by
  refine a_wk (rc' := rc + 3) (rs' := rs + 18) (by omega) (by omega) ?_
  refine a_aload_n 3 1 (μ := m_L_law) (pc := 196) dL_law_196 rfl rfl ?_
  refine l_arg (v := 1) 4 0 197 dL_law_197 dL_law_198 dL_law_200 dL_law_201 dL_law_202 rfl rfl (by decide) (hin 1 (by decide)) ?_
  refine l_arg (v := 2) 4 0 203 dL_law_203 dL_law_204 dL_law_206 dL_law_207 dL_law_208 rfl rfl (by decide) (hin 2 (by decide)) ?_
  refine l_arg (v := 3) 4 0 209 dL_law_209 dL_law_210 dL_law_212 dL_law_213 dL_law_214 rfl rfl (by decide) (hin 3 (by decide)) ?_
  refine l_arg (v := 4) 4 0 215 dL_law_215 dL_law_216 dL_law_218 dL_law_219 dL_law_220 rfl rfl (by decide) (hin 4 (by decide)) ?_
  refine l_arg (v := 5) 4 0 221 dL_law_221 dL_law_222 dL_law_224 dL_law_225 dL_law_226 rfl rfl (by decide) (hin 5 (by decide)) ?_
  refine a_callV (h := (g, δ)) (rc' := rc) (rs' := rs) (As := [.int (sc D (i + 1)), .int (sc D (i + 2)), .int (sc D (i + 3)), .int (sc D (i + 4)), .int (sc D (i + 5))]) (rest := []) (μ := m_L_law) (pc := 227) dL_law_227 cv_L_112 rfl kx (by decide) rfl (Nat.le_of_ble_eq_true rfl) (d' := d - 1) (by omega) (by omega) (by omega) (c_X11_feed (N := N) wt hl (d := d - 1) (by omega) kx (b, δ1) h1 _ _ ?_)
  show AW _ _ _ _ _ _ _ _ _ (227 + 3) _ [.int b] (g, δ1)
  refine a_aload_n 2 2 (μ := m_L_law) (pc := 230) dL_law_230 rfl rfl ?_
  refine l_arg (v := 1) 4 0 231 dL_law_231 dL_law_232 dL_law_234 dL_law_235 dL_law_236 rfl rfl (by decide) (hin 1 (by decide)) ?_
  refine l_arg (v := 2) 4 0 237 dL_law_237 dL_law_238 dL_law_240 dL_law_241 dL_law_242 rfl rfl (by decide) (hin 2 (by decide)) ?_
  refine l_arg (v := 3) 4 0 243 dL_law_243 dL_law_244 dL_law_246 dL_law_247 dL_law_248 rfl rfl (by decide) (hin 3 (by decide)) ?_
  refine l_arg (v := 4) 4 0 249 dL_law_249 dL_law_250 dL_law_252 dL_law_253 dL_law_254 rfl rfl (by decide) (hin 4 (by decide)) ?_
  refine l_arg (v := 5) 4 0 255 dL_law_255 dL_law_256 dL_law_258 dL_law_259 dL_law_260 rfl rfl (by decide) (hin 5 (by decide)) ?_
  refine a_callV (h := (g, δ1)) (rc' := rc) (rs' := rs) (As := [.int (sc D (i + 1)), .int (sc D (i + 2)), .int (sc D (i + 3)), .int (sc D (i + 4)), .int (sc D (i + 5))]) (rest := [.int b]) (μ := m_L_law) (pc := 261) dL_law_261 cv_L_115 rfl km (by decide) rfl (Nat.le_of_ble_eq_true rfl) (d' := d - 1) (by omega) (by omega) (by omega) (c_X12_feed (N := N) wt hl (d := d - 1) (by omega) km (b, δ2) h2 _ _ ?_)
  show AW _ _ _ _ _ _ _ _ _ (261 + 3) _ [.int b, .int b] (g, δ2)
  refine a_icmp_eq 2457 (μ := m_L_law) (pc := 264) dL_law_264 (by decide) (fun _ => ?_) (fun z => absurd rfl z)
  exact K
set_option maxHeartbeats 4000000 in
theorem lw_1 {l : Launch} {D : va_G} {cy : Nat → ClassId} {N d rc rs : Nat} {P : Option Value → hp → Prop} {X : String → hp → Prop} {g : gp} (wt : WT g) (hl : l.stackTraces = false) (hd : 91 ≤ d) {x m o : Nat} {i : Int32} {δ : dp} (kx : q_K g x = 11) (km : q_K g m = 12) (ko : q_K g o = 14) (ho : q_N g o = 1) (hin : ∀ v : Int32, v ∈ [1, 2, 3, 4, 5] → vp_in (i + v) (D.2 102 1)) {kk b : Int32} {δ1 δ2 : dp} (h1 : D_L_shape N g x (sc D (i + 1)) o δ = some (kk, δ1)) (h2 : D_X12_shape N g m (sc D (i + 1)) δ1 = some (b, δ2)) (h3 : q_I δ2 12 0 m = kk) (h4 : kk = 0 → q_J δ2 o 0 = b.toInt64) (K : AW l D cy m_L_law d rc rs P X 2457 (lv0 D x m o i) [] (g, δ2)) : AW l D cy m_L_law d (rc + 3) (rs + 18) P X 269 (lv0 D x m o i) [] (g, δ) := by
  refine a_wk (rc' := rc + 3) (rs' := rs + 18) (by omega) (by omega) ?_
  refine a_aload_n 3 1 (μ := m_L_law) (pc := 269) dL_law_269 rfl rfl ?_
  refine l_arg (v := 1) 4 0 270 dL_law_270 dL_law_271 dL_law_273 dL_law_274 dL_law_275 rfl rfl (by decide) (hin 1 (by decide)) ?_
  refine a_aload_n 1 3 (μ := m_L_law) (pc := 276) dL_law_276 rfl rfl ?_
  refine a_callH (hh := hh_shape) (h := (g, δ)) (rc' := rc) (rs' := rs) (mc' := 1) (ms' := 6) (As := [.ref x, .int (sc D (i + 1)), .ref o]) (rest := []) (μ := m_L_law) (pc := 277) dL_law_277 ch_116 rfl (Nat.le_of_ble_eq_true rfl) (d' := d - 1) (by omega) (by omega) (by omega) (c_L_shape (N := N) wt hl (d := d - 1) (by omega) kx ko (kk, δ1) h1 ?_)
  show AW _ _ _ _ _ _ _ _ _ (277 + 3) _ [.int kk] (g, δ1)
  refine a_istore ((5, .int kk) :: lv0 D x m o i) (μ := m_L_law) (pc := 280) dL_law_280 (by decide) rfl ?_
  refine a_aload_n 3 2 (μ := m_L_law) (pc := 282) dL_law_282 rfl rfl ?_
  refine l_arg (v := 1) 5 1 283 dL_law_283 dL_law_284 dL_law_286 dL_law_287 dL_law_288 rfl rfl (by decide) (hin 1 (by decide)) ?_
  refine a_callV (h := (g, δ1)) (rc' := rc) (rs' := rs) (As := [.int (sc D (i + 1))]) (rest := []) (μ := m_L_law) (pc := 289) dL_law_289 cv_L_121 rfl km (by decide) rfl (Nat.le_of_ble_eq_true rfl) (d' := d - 1) (by omega) (by omega) (by omega) (c_X12_shape (N := N) wt hl (d := d - 1) (by omega) km (b, δ2) h2 _ _ ?_)
  show AW _ _ _ _ _ _ _ _ _ (289 + 3) _ [.int b] (g, δ2)
  refine a_istore ((6, .int b) :: (5, .int kk) :: lv0 D x m o i) (μ := m_L_law) (pc := 292) dL_law_292 (by decide) rfl ?_
  refine a_aload_n 4 2 (μ := m_L_law) (pc := 294) dL_law_294 rfl rfl ?_
  refine a_callV (h := (g, δ2)) (rc' := rc) (rs' := rs) (As := []) (rest := []) (μ := m_L_law) (pc := 295) dL_law_295 cv_L_122 rfl km (by decide) rfl (Nat.le_of_ble_eq_true rfl) (d' := d - 1) (by omega) (by omega) (by omega) (c_X12_thrown (N := N) wt hl (d := d - 1) (by omega) km (q_I δ2 12 0 m, δ2) rfl _ _ ?_)
  show AW _ _ _ _ _ _ _ _ _ (295 + 3) _ [.int (q_I δ2 12 0 m)] (g, δ2)
  refine a_iload 1 (μ := m_L_law) (pc := 298) dL_law_298 rfl ?_
  refine a_icmp_eq 305 (μ := m_L_law) (pc := 300) dL_law_300 (by decide) (fun _ => ?_) (fun z => absurd h3 z)
  refine a_iload 1 (μ := m_L_law) (pc := 305) dL_law_305 rfl ?_
  refine a_if_ne 322 (μ := m_L_law) (pc := 307) dL_law_307 (by decide) (fun _ => ?_) (fun z => ?_)
  · refine a_goto 2457 (μ := m_L_law) (pc := 322) dL_law_322 (by decide) ?_
    exact a_lv [2, 3, 4, 5, 6] rfl K
  · refine a_aload_n 3 3 (μ := m_L_law) (pc := 310) dL_law_310 rfl rfl ?_
    refine a_iconst (v := 0) (μ := m_L_law) (pc := 311) dL_law_311 (by decide) ?_
    refine a_lald (μ := m_L_law) (pc := 312) dL_law_312 ko (vp_n (by rw [ho]; decide)) ?_
    rw [z_nat]
    refine a_iload 0 (μ := m_L_law) (pc := 313) dL_law_313 rfl ?_
    refine a_i2l (μ := m_L_law) (pc := 315) dL_law_315 ?_
    refine a_lcmp (μ := m_L_law) (pc := 316) dL_law_316 ?_
    rw [h4 z, lg_self]
    refine a_if_eq 322 (μ := m_L_law) (pc := 317) dL_law_317 (by decide) (fun _ => ?_) (fun z => absurd rfl z)
    refine a_goto 2457 (μ := m_L_law) (pc := 322) dL_law_322 (by decide) ?_
    exact a_lv [2, 3, 4, 5, 6] rfl K
set_option maxHeartbeats 4000000 in
theorem lw_2 {l : Launch} {D : va_G} {cy : Nat → ClassId} {N d rc rs : Nat} {P : Option Value → hp → Prop} {X : String → hp → Prop} {g : gp} (wt : WT g) (hl : l.stackTraces = false) (hd : 91 ≤ d) {x m o : Nat} {i : Int32} {δ : dp} (kx : q_K g x = 11) (km : q_K g m = 12) (ko : q_K g o = 14) (ho : q_N g o = 1) (hin : ∀ v : Int32, v ∈ [1, 2, 3, 4, 5] → vp_in (i + v) (D.2 102 1)) {kk b : Int32} {δ1 δ2 : dp} (h1 : D_L_thief N g x (sc D (i + 1)) o δ = some (kk, δ1)) (h2 : D_X12_thief N g m (sc D (i + 1)) δ1 = some (b, δ2)) (h3 : q_I δ2 12 0 m = kk) (h4 : kk = 0 → q_J δ2 o 0 = b.toInt64) (K : AW l D cy m_L_law d rc rs P X 2457 (lv0 D x m o i) [] (g, δ2)) : AW l D cy m_L_law d (rc + 3) (rs + 18) P X 325 (lv0 D x m o i) [] (g, δ) := by
  refine a_wk (rc' := rc + 3) (rs' := rs + 18) (by omega) (by omega) ?_
  refine a_aload_n 3 1 (μ := m_L_law) (pc := 325) dL_law_325 rfl rfl ?_
  refine l_arg (v := 1) 4 0 326 dL_law_326 dL_law_327 dL_law_329 dL_law_330 dL_law_331 rfl rfl (by decide) (hin 1 (by decide)) ?_
  refine a_aload_n 1 3 (μ := m_L_law) (pc := 332) dL_law_332 rfl rfl ?_
  refine a_callH (hh := hh_thief) (h := (g, δ)) (rc' := rc) (rs' := rs) (mc' := 1) (ms' := 6) (As := [.ref x, .int (sc D (i + 1)), .ref o]) (rest := []) (μ := m_L_law) (pc := 333) dL_law_333 ch_126 rfl (Nat.le_of_ble_eq_true rfl) (d' := d - 1) (by omega) (by omega) (by omega) (c_L_thief (N := N) wt hl (d := d - 1) (by omega) kx ko (kk, δ1) h1 ?_)
  show AW _ _ _ _ _ _ _ _ _ (333 + 3) _ [.int kk] (g, δ1)
  refine a_istore ((5, .int kk) :: lv0 D x m o i) (μ := m_L_law) (pc := 336) dL_law_336 (by decide) rfl ?_
  refine a_aload_n 3 2 (μ := m_L_law) (pc := 338) dL_law_338 rfl rfl ?_
  refine l_arg (v := 1) 5 1 339 dL_law_339 dL_law_340 dL_law_342 dL_law_343 dL_law_344 rfl rfl (by decide) (hin 1 (by decide)) ?_
  refine a_callV (h := (g, δ1)) (rc' := rc) (rs' := rs) (As := [.int (sc D (i + 1))]) (rest := []) (μ := m_L_law) (pc := 345) dL_law_345 cv_L_128 rfl km (by decide) rfl (Nat.le_of_ble_eq_true rfl) (d' := d - 1) (by omega) (by omega) (by omega) (c_X12_thief (N := N) wt hl (d := d - 1) (by omega) km (b, δ2) h2 _ _ ?_)
  show AW _ _ _ _ _ _ _ _ _ (345 + 3) _ [.int b] (g, δ2)
  refine a_istore ((6, .int b) :: (5, .int kk) :: lv0 D x m o i) (μ := m_L_law) (pc := 348) dL_law_348 (by decide) rfl ?_
  refine a_aload_n 4 2 (μ := m_L_law) (pc := 350) dL_law_350 rfl rfl ?_
  refine a_callV (h := (g, δ2)) (rc' := rc) (rs' := rs) (As := []) (rest := []) (μ := m_L_law) (pc := 351) dL_law_351 cv_L_122 rfl km (by decide) rfl (Nat.le_of_ble_eq_true rfl) (d' := d - 1) (by omega) (by omega) (by omega) (c_X12_thrown (N := N) wt hl (d := d - 1) (by omega) km (q_I δ2 12 0 m, δ2) rfl _ _ ?_)
  show AW _ _ _ _ _ _ _ _ _ (351 + 3) _ [.int (q_I δ2 12 0 m)] (g, δ2)
  refine a_iload 1 (μ := m_L_law) (pc := 354) dL_law_354 rfl ?_
  refine a_icmp_eq 361 (μ := m_L_law) (pc := 356) dL_law_356 (by decide) (fun _ => ?_) (fun z => absurd h3 z)
  refine a_iload 1 (μ := m_L_law) (pc := 361) dL_law_361 rfl ?_
  refine a_if_ne 378 (μ := m_L_law) (pc := 363) dL_law_363 (by decide) (fun _ => ?_) (fun z => ?_)
  · refine a_goto 2457 (μ := m_L_law) (pc := 378) dL_law_378 (by decide) ?_
    exact a_lv [2, 3, 4, 5, 6] rfl K
  · refine a_aload_n 3 3 (μ := m_L_law) (pc := 366) dL_law_366 rfl rfl ?_
    refine a_iconst (v := 0) (μ := m_L_law) (pc := 367) dL_law_367 (by decide) ?_
    refine a_lald (μ := m_L_law) (pc := 368) dL_law_368 ko (vp_n (by rw [ho]; decide)) ?_
    rw [z_nat]
    refine a_iload 0 (μ := m_L_law) (pc := 369) dL_law_369 rfl ?_
    refine a_i2l (μ := m_L_law) (pc := 371) dL_law_371 ?_
    refine a_lcmp (μ := m_L_law) (pc := 372) dL_law_372 ?_
    rw [h4 z, lg_self]
    refine a_if_eq 378 (μ := m_L_law) (pc := 373) dL_law_373 (by decide) (fun _ => ?_) (fun z => absurd rfl z)
    refine a_goto 2457 (μ := m_L_law) (pc := 378) dL_law_378 (by decide) ?_
    exact a_lv [2, 3, 4, 5, 6] rfl K
set_option maxHeartbeats 4000000 in
theorem lw_3 {l : Launch} {D : va_G} {cy : Nat → ClassId} {N d rc rs : Nat} {P : Option Value → hp → Prop} {X : String → hp → Prop} {g : gp} (wt : WT g) (hl : l.stackTraces = false) (hd : 91 ≤ d) {x m o : Nat} {i : Int32} {δ : dp} (kx : q_K g x = 11) (km : q_K g m = 12) (ko : q_K g o = 14) (ho : q_N g o = 1) (hin : ∀ v : Int32, v ∈ [1, 2, 3, 4, 5] → vp_in (i + v) (D.2 102 1)) {b : Int32} {δ1 δ2 : dp} (h1 : D_X11_fault N g x  δ = some (b, δ1)) (h2 : D_X12_fault N g m  δ1 = some (b, δ2)) (K : AW l D cy m_L_law d rc rs P X 2457 (lv0 D x m o i) [] (g, δ2)) : AW l D cy m_L_law d (rc + 3) (rs + 18) P X 381 (lv0 D x m o i) [] (g, δ) := by
  refine a_wk (rc' := rc + 3) (rs' := rs + 18) (by omega) (by omega) ?_
  refine a_aload_n 3 1 (μ := m_L_law) (pc := 381) dL_law_381 rfl rfl ?_
  refine a_callV (h := (g, δ)) (rc' := rc) (rs' := rs) (As := []) (rest := []) (μ := m_L_law) (pc := 382) dL_law_382 cv_L_129 rfl kx (by decide) rfl (Nat.le_of_ble_eq_true rfl) (d' := d - 1) (by omega) (by omega) (by omega) (c_X11_fault (N := N) wt hl (d := d - 1) (by omega) kx (b, δ1) h1 _ _ ?_)
  show AW _ _ _ _ _ _ _ _ _ (382 + 3) _ [.int b] (g, δ1)
  refine a_aload_n 2 2 (μ := m_L_law) (pc := 385) dL_law_385 rfl rfl ?_
  refine a_callV (h := (g, δ1)) (rc' := rc) (rs' := rs) (As := []) (rest := [.int b]) (μ := m_L_law) (pc := 386) dL_law_386 cv_L_132 rfl km (by decide) rfl (Nat.le_of_ble_eq_true rfl) (d' := d - 1) (by omega) (by omega) (by omega) (c_X12_fault (N := N) wt hl (d := d - 1) (by omega) km (b, δ2) h2 _ _ ?_)
  show AW _ _ _ _ _ _ _ _ _ (386 + 3) _ [.int b, .int b] (g, δ2)
  refine a_icmp_eq 2457 (μ := m_L_law) (pc := 389) dL_law_389 (by decide) (fun _ => ?_) (fun z => absurd rfl z)
  exact K
set_option maxHeartbeats 4000000 in
theorem lw_4 {l : Launch} {D : va_G} {cy : Nat → ClassId} {N d rc rs : Nat} {P : Option Value → hp → Prop} {X : String → hp → Prop} {g : gp} (wt : WT g) (hl : l.stackTraces = false) (hd : 91 ≤ d) {x m o : Nat} {i : Int32} {δ : dp} (kx : q_K g x = 11) (km : q_K g m = 12) (ko : q_K g o = 14) (ho : q_N g o = 1) (hin : ∀ v : Int32, v ∈ [1, 2, 3, 4, 5] → vp_in (i + v) (D.2 102 1)) {kk b : Int32} {δ1 δ2 : dp} (h1 : D_L_told N g x (sc D (i + 1)) o δ = some (kk, δ1)) (h2 : D_X12_told N g m (sc D (i + 1)) δ1 = some (b, δ2)) (h3 : q_I δ2 12 0 m = kk) (h4 : kk = 0 → q_J δ2 o 0 = b.toInt64) (K : AW l D cy m_L_law d rc rs P X 2457 (lv0 D x m o i) [] (g, δ2)) : AW l D cy m_L_law d (rc + 3) (rs + 18) P X 394 (lv0 D x m o i) [] (g, δ) := by
  refine a_wk (rc' := rc + 3) (rs' := rs + 18) (by omega) (by omega) ?_
  refine a_aload_n 3 1 (μ := m_L_law) (pc := 394) dL_law_394 rfl rfl ?_
  refine l_arg (v := 1) 4 0 395 dL_law_395 dL_law_396 dL_law_398 dL_law_399 dL_law_400 rfl rfl (by decide) (hin 1 (by decide)) ?_
  refine a_aload_n 1 3 (μ := m_L_law) (pc := 401) dL_law_401 rfl rfl ?_
  refine a_callH (hh := hh_told) (h := (g, δ)) (rc' := rc) (rs' := rs) (mc' := 1) (ms' := 6) (As := [.ref x, .int (sc D (i + 1)), .ref o]) (rest := []) (μ := m_L_law) (pc := 402) dL_law_402 ch_133 rfl (Nat.le_of_ble_eq_true rfl) (d' := d - 1) (by omega) (by omega) (by omega) (c_L_told (N := N) wt hl (d := d - 1) (by omega) kx ko (kk, δ1) h1 ?_)
  show AW _ _ _ _ _ _ _ _ _ (402 + 3) _ [.int kk] (g, δ1)
  refine a_istore ((5, .int kk) :: lv0 D x m o i) (μ := m_L_law) (pc := 405) dL_law_405 (by decide) rfl ?_
  refine a_aload_n 3 2 (μ := m_L_law) (pc := 407) dL_law_407 rfl rfl ?_
  refine l_arg (v := 1) 5 1 408 dL_law_408 dL_law_409 dL_law_411 dL_law_412 dL_law_413 rfl rfl (by decide) (hin 1 (by decide)) ?_
  refine a_callV (h := (g, δ1)) (rc' := rc) (rs' := rs) (As := [.int (sc D (i + 1))]) (rest := []) (μ := m_L_law) (pc := 414) dL_law_414 cv_L_135 rfl km (by decide) rfl (Nat.le_of_ble_eq_true rfl) (d' := d - 1) (by omega) (by omega) (by omega) (c_X12_told (N := N) wt hl (d := d - 1) (by omega) km (b, δ2) h2 _ _ ?_)
  show AW _ _ _ _ _ _ _ _ _ (414 + 3) _ [.int b] (g, δ2)
  refine a_istore ((6, .int b) :: (5, .int kk) :: lv0 D x m o i) (μ := m_L_law) (pc := 417) dL_law_417 (by decide) rfl ?_
  refine a_aload_n 4 2 (μ := m_L_law) (pc := 419) dL_law_419 rfl rfl ?_
  refine a_callV (h := (g, δ2)) (rc' := rc) (rs' := rs) (As := []) (rest := []) (μ := m_L_law) (pc := 420) dL_law_420 cv_L_122 rfl km (by decide) rfl (Nat.le_of_ble_eq_true rfl) (d' := d - 1) (by omega) (by omega) (by omega) (c_X12_thrown (N := N) wt hl (d := d - 1) (by omega) km (q_I δ2 12 0 m, δ2) rfl _ _ ?_)
  show AW _ _ _ _ _ _ _ _ _ (420 + 3) _ [.int (q_I δ2 12 0 m)] (g, δ2)
  refine a_iload 1 (μ := m_L_law) (pc := 423) dL_law_423 rfl ?_
  refine a_icmp_eq 430 (μ := m_L_law) (pc := 425) dL_law_425 (by decide) (fun _ => ?_) (fun z => absurd h3 z)
  refine a_iload 1 (μ := m_L_law) (pc := 430) dL_law_430 rfl ?_
  refine a_if_ne 447 (μ := m_L_law) (pc := 432) dL_law_432 (by decide) (fun _ => ?_) (fun z => ?_)
  · refine a_goto 2457 (μ := m_L_law) (pc := 447) dL_law_447 (by decide) ?_
    exact a_lv [2, 3, 4, 5, 6] rfl K
  · refine a_aload_n 3 3 (μ := m_L_law) (pc := 435) dL_law_435 rfl rfl ?_
    refine a_iconst (v := 0) (μ := m_L_law) (pc := 436) dL_law_436 (by decide) ?_
    refine a_lald (μ := m_L_law) (pc := 437) dL_law_437 ko (vp_n (by rw [ho]; decide)) ?_
    rw [z_nat]
    refine a_iload 0 (μ := m_L_law) (pc := 438) dL_law_438 rfl ?_
    refine a_i2l (μ := m_L_law) (pc := 440) dL_law_440 ?_
    refine a_lcmp (μ := m_L_law) (pc := 441) dL_law_441 ?_
    rw [h4 z, lg_self]
    refine a_if_eq 447 (μ := m_L_law) (pc := 442) dL_law_442 (by decide) (fun _ => ?_) (fun z => absurd rfl z)
    refine a_goto 2457 (μ := m_L_law) (pc := 447) dL_law_447 (by decide) ?_
    exact a_lv [2, 3, 4, 5, 6] rfl K
set_option maxHeartbeats 4000000 in
theorem lw_5 {l : Launch} {D : va_G} {cy : Nat → ClassId} {N d rc rs : Nat} {P : Option Value → hp → Prop} {X : String → hp → Prop} {g : gp} (wt : WT g) (hl : l.stackTraces = false) (hd : 91 ≤ d) {x m o : Nat} {i : Int32} {δ : dp} (kx : q_K g x = 11) (km : q_K g m = 12) (ko : q_K g o = 14) (ho : q_N g o = 1) (hin : ∀ v : Int32, v ∈ [1, 2, 3, 4, 5] → vp_in (i + v) (D.2 102 1)) {kk b : Int32} {δ1 δ2 : dp} (h1 : D_L_put N g x (sc D (i + 1)) (sc D (i + 2)) o δ = some (kk, δ1)) (h2 : D_X12_put N g m (sc D (i + 1)) (sc D (i + 2)) δ1 = some (b, δ2)) (h3 : q_I δ2 12 0 m = kk) (h4 : kk = 0 → q_J δ2 o 0 = b.toInt64) (K : AW l D cy m_L_law d rc rs P X 2457 (lv0 D x m o i) [] (g, δ2)) : AW l D cy m_L_law d (rc + 3) (rs + 18) P X 450 (lv0 D x m o i) [] (g, δ) := by
  refine a_wk (rc' := rc + 3) (rs' := rs + 18) (by omega) (by omega) ?_
  refine a_aload_n 3 1 (μ := m_L_law) (pc := 450) dL_law_450 rfl rfl ?_
  refine l_arg (v := 1) 4 0 451 dL_law_451 dL_law_452 dL_law_454 dL_law_455 dL_law_456 rfl rfl (by decide) (hin 1 (by decide)) ?_
  refine l_arg (v := 2) 4 0 457 dL_law_457 dL_law_458 dL_law_460 dL_law_461 dL_law_462 rfl rfl (by decide) (hin 2 (by decide)) ?_
  refine a_aload_n 1 3 (μ := m_L_law) (pc := 463) dL_law_463 rfl rfl ?_
  refine a_callH (hh := hh_put) (h := (g, δ)) (rc' := rc) (rs' := rs) (mc' := 2) (ms' := 12) (As := [.ref x, .int (sc D (i + 1)), .int (sc D (i + 2)), .ref o]) (rest := []) (μ := m_L_law) (pc := 464) dL_law_464 ch_136 rfl (Nat.le_of_ble_eq_true rfl) (d' := d - 1) (by omega) (by omega) (by omega) (c_L_put (N := N) wt hl (d := d - 1) (by omega) kx ko (kk, δ1) h1 ?_)
  show AW _ _ _ _ _ _ _ _ _ (464 + 3) _ [.int kk] (g, δ1)
  refine a_istore ((5, .int kk) :: lv0 D x m o i) (μ := m_L_law) (pc := 467) dL_law_467 (by decide) rfl ?_
  refine a_aload_n 3 2 (μ := m_L_law) (pc := 469) dL_law_469 rfl rfl ?_
  refine l_arg (v := 1) 5 1 470 dL_law_470 dL_law_471 dL_law_473 dL_law_474 dL_law_475 rfl rfl (by decide) (hin 1 (by decide)) ?_
  refine l_arg (v := 2) 5 1 476 dL_law_476 dL_law_477 dL_law_479 dL_law_480 dL_law_481 rfl rfl (by decide) (hin 2 (by decide)) ?_
  refine a_callV (h := (g, δ1)) (rc' := rc) (rs' := rs) (As := [.int (sc D (i + 1)), .int (sc D (i + 2))]) (rest := []) (μ := m_L_law) (pc := 482) dL_law_482 cv_L_139 rfl km (by decide) rfl (Nat.le_of_ble_eq_true rfl) (d' := d - 1) (by omega) (by omega) (by omega) (c_X12_put (N := N) wt hl (d := d - 1) (by omega) km (b, δ2) h2 _ _ ?_)
  show AW _ _ _ _ _ _ _ _ _ (482 + 3) _ [.int b] (g, δ2)
  refine a_istore ((6, .int b) :: (5, .int kk) :: lv0 D x m o i) (μ := m_L_law) (pc := 485) dL_law_485 (by decide) rfl ?_
  refine a_aload_n 4 2 (μ := m_L_law) (pc := 487) dL_law_487 rfl rfl ?_
  refine a_callV (h := (g, δ2)) (rc' := rc) (rs' := rs) (As := []) (rest := []) (μ := m_L_law) (pc := 488) dL_law_488 cv_L_122 rfl km (by decide) rfl (Nat.le_of_ble_eq_true rfl) (d' := d - 1) (by omega) (by omega) (by omega) (c_X12_thrown (N := N) wt hl (d := d - 1) (by omega) km (q_I δ2 12 0 m, δ2) rfl _ _ ?_)
  show AW _ _ _ _ _ _ _ _ _ (488 + 3) _ [.int (q_I δ2 12 0 m)] (g, δ2)
  refine a_iload 1 (μ := m_L_law) (pc := 491) dL_law_491 rfl ?_
  refine a_icmp_eq 498 (μ := m_L_law) (pc := 493) dL_law_493 (by decide) (fun _ => ?_) (fun z => absurd h3 z)
  refine a_iload 1 (μ := m_L_law) (pc := 498) dL_law_498 rfl ?_
  refine a_if_ne 515 (μ := m_L_law) (pc := 500) dL_law_500 (by decide) (fun _ => ?_) (fun z => ?_)
  · refine a_goto 2457 (μ := m_L_law) (pc := 515) dL_law_515 (by decide) ?_
    exact a_lv [2, 3, 4, 5, 6] rfl K
  · refine a_aload_n 3 3 (μ := m_L_law) (pc := 503) dL_law_503 rfl rfl ?_
    refine a_iconst (v := 0) (μ := m_L_law) (pc := 504) dL_law_504 (by decide) ?_
    refine a_lald (μ := m_L_law) (pc := 505) dL_law_505 ko (vp_n (by rw [ho]; decide)) ?_
    rw [z_nat]
    refine a_iload 0 (μ := m_L_law) (pc := 506) dL_law_506 rfl ?_
    refine a_i2l (μ := m_L_law) (pc := 508) dL_law_508 ?_
    refine a_lcmp (μ := m_L_law) (pc := 509) dL_law_509 ?_
    rw [h4 z, lg_self]
    refine a_if_eq 515 (μ := m_L_law) (pc := 510) dL_law_510 (by decide) (fun _ => ?_) (fun z => absurd rfl z)
    refine a_goto 2457 (μ := m_L_law) (pc := 515) dL_law_515 (by decide) ?_
    exact a_lv [2, 3, 4, 5, 6] rfl K
set_option maxHeartbeats 4000000 in
theorem lw_6 {l : Launch} {D : va_G} {cy : Nat → ClassId} {N d rc rs : Nat} {P : Option Value → hp → Prop} {X : String → hp → Prop} {g : gp} (wt : WT g) (hl : l.stackTraces = false) (hd : 91 ≤ d) {x m o : Nat} {i : Int32} {δ : dp} (kx : q_K g x = 11) (km : q_K g m = 12) (ko : q_K g o = 14) (ho : q_N g o = 1) (hin : ∀ v : Int32, v ∈ [1, 2, 3, 4, 5] → vp_in (i + v) (D.2 102 1)) {kk b : Int32} {δ1 δ2 : dp} (h1 : D_L_drop N g x (sc D (i + 1)) (sc D (i + 2)) o δ = some (kk, δ1)) (h2 : D_X12_drop N g m (sc D (i + 1)) (sc D (i + 2)) δ1 = some (b, δ2)) (h3 : q_I δ2 12 0 m = kk) (h4 : kk = 0 → q_J δ2 o 0 = b.toInt64) (K : AW l D cy m_L_law d rc rs P X 2457 (lv0 D x m o i) [] (g, δ2)) : AW l D cy m_L_law d (rc + 3) (rs + 18) P X 518 (lv0 D x m o i) [] (g, δ) := by
  refine a_wk (rc' := rc + 3) (rs' := rs + 18) (by omega) (by omega) ?_
  refine a_aload_n 3 1 (μ := m_L_law) (pc := 518) dL_law_518 rfl rfl ?_
  refine l_arg (v := 1) 4 0 519 dL_law_519 dL_law_520 dL_law_522 dL_law_523 dL_law_524 rfl rfl (by decide) (hin 1 (by decide)) ?_
  refine l_arg (v := 2) 4 0 525 dL_law_525 dL_law_526 dL_law_528 dL_law_529 dL_law_530 rfl rfl (by decide) (hin 2 (by decide)) ?_
  refine a_aload_n 1 3 (μ := m_L_law) (pc := 531) dL_law_531 rfl rfl ?_
  refine a_callH (hh := hh_drop) (h := (g, δ)) (rc' := rc) (rs' := rs) (mc' := 2) (ms' := 12) (As := [.ref x, .int (sc D (i + 1)), .int (sc D (i + 2)), .ref o]) (rest := []) (μ := m_L_law) (pc := 532) dL_law_532 ch_140 rfl (Nat.le_of_ble_eq_true rfl) (d' := d - 1) (by omega) (by omega) (by omega) (c_L_drop (N := N) wt hl (d := d - 1) (by omega) kx ko (kk, δ1) h1 ?_)
  show AW _ _ _ _ _ _ _ _ _ (532 + 3) _ [.int kk] (g, δ1)
  refine a_istore ((5, .int kk) :: lv0 D x m o i) (μ := m_L_law) (pc := 535) dL_law_535 (by decide) rfl ?_
  refine a_aload_n 3 2 (μ := m_L_law) (pc := 537) dL_law_537 rfl rfl ?_
  refine l_arg (v := 1) 5 1 538 dL_law_538 dL_law_539 dL_law_541 dL_law_542 dL_law_543 rfl rfl (by decide) (hin 1 (by decide)) ?_
  refine l_arg (v := 2) 5 1 544 dL_law_544 dL_law_545 dL_law_547 dL_law_548 dL_law_549 rfl rfl (by decide) (hin 2 (by decide)) ?_
  refine a_callV (h := (g, δ1)) (rc' := rc) (rs' := rs) (As := [.int (sc D (i + 1)), .int (sc D (i + 2))]) (rest := []) (μ := m_L_law) (pc := 550) dL_law_550 cv_L_142 rfl km (by decide) rfl (Nat.le_of_ble_eq_true rfl) (d' := d - 1) (by omega) (by omega) (by omega) (c_X12_drop (N := N) wt hl (d := d - 1) (by omega) km (b, δ2) h2 _ _ ?_)
  show AW _ _ _ _ _ _ _ _ _ (550 + 3) _ [.int b] (g, δ2)
  refine a_istore ((6, .int b) :: (5, .int kk) :: lv0 D x m o i) (μ := m_L_law) (pc := 553) dL_law_553 (by decide) rfl ?_
  refine a_aload_n 4 2 (μ := m_L_law) (pc := 555) dL_law_555 rfl rfl ?_
  refine a_callV (h := (g, δ2)) (rc' := rc) (rs' := rs) (As := []) (rest := []) (μ := m_L_law) (pc := 556) dL_law_556 cv_L_122 rfl km (by decide) rfl (Nat.le_of_ble_eq_true rfl) (d' := d - 1) (by omega) (by omega) (by omega) (c_X12_thrown (N := N) wt hl (d := d - 1) (by omega) km (q_I δ2 12 0 m, δ2) rfl _ _ ?_)
  show AW _ _ _ _ _ _ _ _ _ (556 + 3) _ [.int (q_I δ2 12 0 m)] (g, δ2)
  refine a_iload 1 (μ := m_L_law) (pc := 559) dL_law_559 rfl ?_
  refine a_icmp_eq 566 (μ := m_L_law) (pc := 561) dL_law_561 (by decide) (fun _ => ?_) (fun z => absurd h3 z)
  refine a_iload 1 (μ := m_L_law) (pc := 566) dL_law_566 rfl ?_
  refine a_if_ne 583 (μ := m_L_law) (pc := 568) dL_law_568 (by decide) (fun _ => ?_) (fun z => ?_)
  · refine a_goto 2457 (μ := m_L_law) (pc := 583) dL_law_583 (by decide) ?_
    exact a_lv [2, 3, 4, 5, 6] rfl K
  · refine a_aload_n 3 3 (μ := m_L_law) (pc := 571) dL_law_571 rfl rfl ?_
    refine a_iconst (v := 0) (μ := m_L_law) (pc := 572) dL_law_572 (by decide) ?_
    refine a_lald (μ := m_L_law) (pc := 573) dL_law_573 ko (vp_n (by rw [ho]; decide)) ?_
    rw [z_nat]
    refine a_iload 0 (μ := m_L_law) (pc := 574) dL_law_574 rfl ?_
    refine a_i2l (μ := m_L_law) (pc := 576) dL_law_576 ?_
    refine a_lcmp (μ := m_L_law) (pc := 577) dL_law_577 ?_
    rw [h4 z, lg_self]
    refine a_if_eq 583 (μ := m_L_law) (pc := 578) dL_law_578 (by decide) (fun _ => ?_) (fun z => absurd rfl z)
    refine a_goto 2457 (μ := m_L_law) (pc := 583) dL_law_583 (by decide) ?_
    exact a_lv [2, 3, 4, 5, 6] rfl K
set_option maxHeartbeats 4000000 in
theorem lw_7 {l : Launch} {D : va_G} {cy : Nat → ClassId} {N d rc rs : Nat} {P : Option Value → hp → Prop} {X : String → hp → Prop} {g : gp} (wt : WT g) (hl : l.stackTraces = false) (hd : 91 ≤ d) {x m o : Nat} {i : Int32} {δ : dp} (kx : q_K g x = 11) (km : q_K g m = 12) (ko : q_K g o = 14) (ho : q_N g o = 1) (hin : ∀ v : Int32, v ∈ [1, 2, 3, 4, 5] → vp_in (i + v) (D.2 102 1)) {kk b : Int32} {δ1 δ2 : dp} (h1 : D_L_has N g x (sc D (i + 1)) (sc D (i + 2)) o δ = some (kk, δ1)) (h2 : D_X12_has N g m (sc D (i + 1)) (sc D (i + 2)) δ1 = some (b, δ2)) (h3 : q_I δ2 12 0 m = kk) (h4 : kk = 0 → q_J δ2 o 0 = (if b = 0 then 0 else 1)) (K : AW l D cy m_L_law d rc rs P X 2457 (lv0 D x m o i) [] (g, δ2)) : AW l D cy m_L_law d (rc + 3) (rs + 18) P X 586 (lv0 D x m o i) [] (g, δ) := by
  refine a_wk (rc' := rc + 3) (rs' := rs + 18) (by omega) (by omega) ?_
  refine a_aload_n 3 1 (μ := m_L_law) (pc := 586) dL_law_586 rfl rfl ?_
  refine l_arg (v := 1) 4 0 587 dL_law_587 dL_law_588 dL_law_590 dL_law_591 dL_law_592 rfl rfl (by decide) (hin 1 (by decide)) ?_
  refine l_arg (v := 2) 4 0 593 dL_law_593 dL_law_594 dL_law_596 dL_law_597 dL_law_598 rfl rfl (by decide) (hin 2 (by decide)) ?_
  refine a_aload_n 1 3 (μ := m_L_law) (pc := 599) dL_law_599 rfl rfl ?_
  refine a_callH (hh := hh_has) (h := (g, δ)) (rc' := rc) (rs' := rs) (mc' := 2) (ms' := 12) (As := [.ref x, .int (sc D (i + 1)), .int (sc D (i + 2)), .ref o]) (rest := []) (μ := m_L_law) (pc := 600) dL_law_600 ch_143 rfl (Nat.le_of_ble_eq_true rfl) (d' := d - 1) (by omega) (by omega) (by omega) (c_L_has (N := N) wt hl (d := d - 1) (by omega) kx ko (kk, δ1) h1 ?_)
  show AW _ _ _ _ _ _ _ _ _ (600 + 3) _ [.int kk] (g, δ1)
  refine a_istore ((5, .int kk) :: lv0 D x m o i) (μ := m_L_law) (pc := 603) dL_law_603 (by decide) rfl ?_
  refine a_aload_n 3 2 (μ := m_L_law) (pc := 605) dL_law_605 rfl rfl ?_
  refine l_arg (v := 1) 5 1 606 dL_law_606 dL_law_607 dL_law_609 dL_law_610 dL_law_611 rfl rfl (by decide) (hin 1 (by decide)) ?_
  refine l_arg (v := 2) 5 1 612 dL_law_612 dL_law_613 dL_law_615 dL_law_616 dL_law_617 rfl rfl (by decide) (hin 2 (by decide)) ?_
  refine a_callV (h := (g, δ1)) (rc' := rc) (rs' := rs) (As := [.int (sc D (i + 1)), .int (sc D (i + 2))]) (rest := []) (μ := m_L_law) (pc := 618) dL_law_618 cv_L_145 rfl km (by decide) rfl (Nat.le_of_ble_eq_true rfl) (d' := d - 1) (by omega) (by omega) (by omega) (c_X12_has (N := N) wt hl (d := d - 1) (by omega) km (b, δ2) h2 _ _ ?_)
  show AW _ _ _ _ _ _ _ _ _ (618 + 3) _ [.int b] (g, δ2)
  refine a_istore ((6, .int b) :: (5, .int kk) :: lv0 D x m o i) (μ := m_L_law) (pc := 621) dL_law_621 (by decide) rfl ?_
  refine a_aload_n 4 2 (μ := m_L_law) (pc := 623) dL_law_623 rfl rfl ?_
  refine a_callV (h := (g, δ2)) (rc' := rc) (rs' := rs) (As := []) (rest := []) (μ := m_L_law) (pc := 624) dL_law_624 cv_L_122 rfl km (by decide) rfl (Nat.le_of_ble_eq_true rfl) (d' := d - 1) (by omega) (by omega) (by omega) (c_X12_thrown (N := N) wt hl (d := d - 1) (by omega) km (q_I δ2 12 0 m, δ2) rfl _ _ ?_)
  show AW _ _ _ _ _ _ _ _ _ (624 + 3) _ [.int (q_I δ2 12 0 m)] (g, δ2)
  refine a_iload 1 (μ := m_L_law) (pc := 627) dL_law_627 rfl ?_
  refine a_icmp_eq 634 (μ := m_L_law) (pc := 629) dL_law_629 (by decide) (fun _ => ?_) (fun z => absurd h3 z)
  refine a_iload 1 (μ := m_L_law) (pc := 634) dL_law_634 rfl ?_
  refine a_if_ne 658 (μ := m_L_law) (pc := 636) dL_law_636 (by decide) (fun _ => ?_) (fun z => ?_)
  · refine a_goto 2457 (μ := m_L_law) (pc := 658) dL_law_658 (by decide) ?_
    exact a_lv [2, 3, 4, 5, 6] rfl K
  · refine a_aload_n 3 3 (μ := m_L_law) (pc := 639) dL_law_639 rfl rfl ?_
    refine a_iconst (v := 0) (μ := m_L_law) (pc := 640) dL_law_640 (by decide) ?_
    refine a_lald (μ := m_L_law) (pc := 641) dL_law_641 ko (vp_n (by rw [ho]; decide)) ?_
    rw [z_nat]
    refine a_iload 0 (μ := m_L_law) (pc := 642) dL_law_642 rfl ?_
    refine a_if_eq 651 (μ := m_L_law) (pc := 644) dL_law_644 (by decide) (fun zb => ?_) (fun zb => ?_)
    · refine a_lconst (v := 0) (μ := m_L_law) (pc := 651) dL_law_651 (by decide) ?_
      refine a_lcmp (μ := m_L_law) (pc := 652) dL_law_652 ?_
      rw [h4 z, if_pos zb, lg_self]
      refine a_if_eq 658 (μ := m_L_law) (pc := 653) dL_law_653 (by decide) (fun _ => ?_) (fun z => absurd rfl z)
      refine a_goto 2457 (μ := m_L_law) (pc := 658) dL_law_658 (by decide) ?_
      exact a_lv [2, 3, 4, 5, 6] rfl K
    · refine a_lconst (v := 1) (μ := m_L_law) (pc := 647) dL_law_647 (by decide) ?_
      refine a_goto 652 (μ := m_L_law) (pc := 648) dL_law_648 (by decide) ?_
      refine a_lcmp (μ := m_L_law) (pc := 652) dL_law_652 ?_
      rw [h4 z, if_neg zb, lg_self]
      refine a_if_eq 658 (μ := m_L_law) (pc := 653) dL_law_653 (by decide) (fun _ => ?_) (fun z => absurd rfl z)
      refine a_goto 2457 (μ := m_L_law) (pc := 658) dL_law_658 (by decide) ?_
      exact a_lv [2, 3, 4, 5, 6] rfl K
set_option maxHeartbeats 4000000 in
theorem lw_8 {l : Launch} {D : va_G} {cy : Nat → ClassId} {N d rc rs : Nat} {P : Option Value → hp → Prop} {X : String → hp → Prop} {g : gp} (wt : WT g) (hl : l.stackTraces = false) (hd : 91 ≤ d) {x m o : Nat} {i : Int32} {δ : dp} (kx : q_K g x = 11) (km : q_K g m = 12) (ko : q_K g o = 14) (ho : q_N g o = 1) (hin : ∀ v : Int32, v ∈ [1, 2, 3, 4, 5] → vp_in (i + v) (D.2 102 1)) {kk b : Int32} {δ1 δ2 : dp} (h1 : D_L_of N g x (sc D (i + 1)) (sc D (i + 2)) o δ = some (kk, δ1)) (h2 : D_X12_of_ N g m (sc D (i + 1)) (sc D (i + 2)) δ1 = some (b, δ2)) (h3 : q_I δ2 12 0 m = kk) (h4 : kk = 0 → q_J δ2 o 0 = b.toInt64) (K : AW l D cy m_L_law d rc rs P X 2457 (lv0 D x m o i) [] (g, δ2)) : AW l D cy m_L_law d (rc + 3) (rs + 18) P X 661 (lv0 D x m o i) [] (g, δ) := by
  refine a_wk (rc' := rc + 3) (rs' := rs + 18) (by omega) (by omega) ?_
  refine a_aload_n 3 1 (μ := m_L_law) (pc := 661) dL_law_661 rfl rfl ?_
  refine l_arg (v := 1) 4 0 662 dL_law_662 dL_law_663 dL_law_665 dL_law_666 dL_law_667 rfl rfl (by decide) (hin 1 (by decide)) ?_
  refine l_arg (v := 2) 4 0 668 dL_law_668 dL_law_669 dL_law_671 dL_law_672 dL_law_673 rfl rfl (by decide) (hin 2 (by decide)) ?_
  refine a_aload_n 1 3 (μ := m_L_law) (pc := 674) dL_law_674 rfl rfl ?_
  refine a_callH (hh := hh_of) (h := (g, δ)) (rc' := rc) (rs' := rs) (mc' := 2) (ms' := 12) (As := [.ref x, .int (sc D (i + 1)), .int (sc D (i + 2)), .ref o]) (rest := []) (μ := m_L_law) (pc := 675) dL_law_675 ch_146 rfl (Nat.le_of_ble_eq_true rfl) (d' := d - 1) (by omega) (by omega) (by omega) (c_L_of (N := N) wt hl (d := d - 1) (by omega) kx ko (kk, δ1) h1 ?_)
  show AW _ _ _ _ _ _ _ _ _ (675 + 3) _ [.int kk] (g, δ1)
  refine a_istore ((5, .int kk) :: lv0 D x m o i) (μ := m_L_law) (pc := 678) dL_law_678 (by decide) rfl ?_
  refine a_aload_n 3 2 (μ := m_L_law) (pc := 680) dL_law_680 rfl rfl ?_
  refine l_arg (v := 1) 5 1 681 dL_law_681 dL_law_682 dL_law_684 dL_law_685 dL_law_686 rfl rfl (by decide) (hin 1 (by decide)) ?_
  refine l_arg (v := 2) 5 1 687 dL_law_687 dL_law_688 dL_law_690 dL_law_691 dL_law_692 rfl rfl (by decide) (hin 2 (by decide)) ?_
  refine a_callV (h := (g, δ1)) (rc' := rc) (rs' := rs) (As := [.int (sc D (i + 1)), .int (sc D (i + 2))]) (rest := []) (μ := m_L_law) (pc := 693) dL_law_693 cv_L_148 rfl km (by decide) rfl (Nat.le_of_ble_eq_true rfl) (d' := d - 1) (by omega) (by omega) (by omega) (c_X12_of_ (N := N) wt hl (d := d - 1) (by omega) km (b, δ2) h2 _ _ ?_)
  show AW _ _ _ _ _ _ _ _ _ (693 + 3) _ [.int b] (g, δ2)
  refine a_istore ((6, .int b) :: (5, .int kk) :: lv0 D x m o i) (μ := m_L_law) (pc := 696) dL_law_696 (by decide) rfl ?_
  refine a_aload_n 4 2 (μ := m_L_law) (pc := 698) dL_law_698 rfl rfl ?_
  refine a_callV (h := (g, δ2)) (rc' := rc) (rs' := rs) (As := []) (rest := []) (μ := m_L_law) (pc := 699) dL_law_699 cv_L_122 rfl km (by decide) rfl (Nat.le_of_ble_eq_true rfl) (d' := d - 1) (by omega) (by omega) (by omega) (c_X12_thrown (N := N) wt hl (d := d - 1) (by omega) km (q_I δ2 12 0 m, δ2) rfl _ _ ?_)
  show AW _ _ _ _ _ _ _ _ _ (699 + 3) _ [.int (q_I δ2 12 0 m)] (g, δ2)
  refine a_iload 1 (μ := m_L_law) (pc := 702) dL_law_702 rfl ?_
  refine a_icmp_eq 709 (μ := m_L_law) (pc := 704) dL_law_704 (by decide) (fun _ => ?_) (fun z => absurd h3 z)
  refine a_iload 1 (μ := m_L_law) (pc := 709) dL_law_709 rfl ?_
  refine a_if_ne 726 (μ := m_L_law) (pc := 711) dL_law_711 (by decide) (fun _ => ?_) (fun z => ?_)
  · refine a_goto 2457 (μ := m_L_law) (pc := 726) dL_law_726 (by decide) ?_
    exact a_lv [2, 3, 4, 5, 6] rfl K
  · refine a_aload_n 3 3 (μ := m_L_law) (pc := 714) dL_law_714 rfl rfl ?_
    refine a_iconst (v := 0) (μ := m_L_law) (pc := 715) dL_law_715 (by decide) ?_
    refine a_lald (μ := m_L_law) (pc := 716) dL_law_716 ko (vp_n (by rw [ho]; decide)) ?_
    rw [z_nat]
    refine a_iload 0 (μ := m_L_law) (pc := 717) dL_law_717 rfl ?_
    refine a_i2l (μ := m_L_law) (pc := 719) dL_law_719 ?_
    refine a_lcmp (μ := m_L_law) (pc := 720) dL_law_720 ?_
    rw [h4 z, lg_self]
    refine a_if_eq 726 (μ := m_L_law) (pc := 721) dL_law_721 (by decide) (fun _ => ?_) (fun z => absurd rfl z)
    refine a_goto 2457 (μ := m_L_law) (pc := 726) dL_law_726 (by decide) ?_
    exact a_lv [2, 3, 4, 5, 6] rfl K
set_option maxHeartbeats 4000000 in
theorem lw_9 {l : Launch} {D : va_G} {cy : Nat → ClassId} {N d rc rs : Nat} {P : Option Value → hp → Prop} {X : String → hp → Prop} {g : gp} (wt : WT g) (hl : l.stackTraces = false) (hd : 91 ≤ d) {x m o : Nat} {i : Int32} {δ : dp} (kx : q_K g x = 11) (km : q_K g m = 12) (ko : q_K g o = 14) (ho : q_N g o = 1) (hin : ∀ v : Int32, v ∈ [1, 2, 3, 4, 5] → vp_in (i + v) (D.2 102 1)) {kk b : Int32} {δ1 δ2 : dp} (h1 : D_L_next N g x (sc D (i + 1)) (sc D (i + 2)) o δ = some (kk, δ1)) (h2 : D_X12_next N g m (sc D (i + 1)) (sc D (i + 2)) δ1 = some (b, δ2)) (h3 : q_I δ2 12 0 m = kk) (h4 : kk = 0 → q_J δ2 o 0 = b.toInt64) (K : AW l D cy m_L_law d rc rs P X 2457 (lv0 D x m o i) [] (g, δ2)) : AW l D cy m_L_law d (rc + 3) (rs + 18) P X 729 (lv0 D x m o i) [] (g, δ) := by
  refine a_wk (rc' := rc + 3) (rs' := rs + 18) (by omega) (by omega) ?_
  refine a_aload_n 3 1 (μ := m_L_law) (pc := 729) dL_law_729 rfl rfl ?_
  refine l_arg (v := 1) 4 0 730 dL_law_730 dL_law_731 dL_law_733 dL_law_734 dL_law_735 rfl rfl (by decide) (hin 1 (by decide)) ?_
  refine l_arg (v := 2) 4 0 736 dL_law_736 dL_law_737 dL_law_739 dL_law_740 dL_law_741 rfl rfl (by decide) (hin 2 (by decide)) ?_
  refine a_aload_n 1 3 (μ := m_L_law) (pc := 742) dL_law_742 rfl rfl ?_
  refine a_callH (hh := hh_next) (h := (g, δ)) (rc' := rc) (rs' := rs) (mc' := 2) (ms' := 12) (As := [.ref x, .int (sc D (i + 1)), .int (sc D (i + 2)), .ref o]) (rest := []) (μ := m_L_law) (pc := 743) dL_law_743 ch_149 rfl (Nat.le_of_ble_eq_true rfl) (d' := d - 1) (by omega) (by omega) (by omega) (c_L_next (N := N) wt hl (d := d - 1) (by omega) kx ko (kk, δ1) h1 ?_)
  show AW _ _ _ _ _ _ _ _ _ (743 + 3) _ [.int kk] (g, δ1)
  refine a_istore ((5, .int kk) :: lv0 D x m o i) (μ := m_L_law) (pc := 746) dL_law_746 (by decide) rfl ?_
  refine a_aload_n 3 2 (μ := m_L_law) (pc := 748) dL_law_748 rfl rfl ?_
  refine l_arg (v := 1) 5 1 749 dL_law_749 dL_law_750 dL_law_752 dL_law_753 dL_law_754 rfl rfl (by decide) (hin 1 (by decide)) ?_
  refine l_arg (v := 2) 5 1 755 dL_law_755 dL_law_756 dL_law_758 dL_law_759 dL_law_760 rfl rfl (by decide) (hin 2 (by decide)) ?_
  refine a_callV (h := (g, δ1)) (rc' := rc) (rs' := rs) (As := [.int (sc D (i + 1)), .int (sc D (i + 2))]) (rest := []) (μ := m_L_law) (pc := 761) dL_law_761 cv_L_151 rfl km (by decide) rfl (Nat.le_of_ble_eq_true rfl) (d' := d - 1) (by omega) (by omega) (by omega) (c_X12_next (N := N) wt hl (d := d - 1) (by omega) km (b, δ2) h2 _ _ ?_)
  show AW _ _ _ _ _ _ _ _ _ (761 + 3) _ [.int b] (g, δ2)
  refine a_istore ((6, .int b) :: (5, .int kk) :: lv0 D x m o i) (μ := m_L_law) (pc := 764) dL_law_764 (by decide) rfl ?_
  refine a_aload_n 4 2 (μ := m_L_law) (pc := 766) dL_law_766 rfl rfl ?_
  refine a_callV (h := (g, δ2)) (rc' := rc) (rs' := rs) (As := []) (rest := []) (μ := m_L_law) (pc := 767) dL_law_767 cv_L_122 rfl km (by decide) rfl (Nat.le_of_ble_eq_true rfl) (d' := d - 1) (by omega) (by omega) (by omega) (c_X12_thrown (N := N) wt hl (d := d - 1) (by omega) km (q_I δ2 12 0 m, δ2) rfl _ _ ?_)
  show AW _ _ _ _ _ _ _ _ _ (767 + 3) _ [.int (q_I δ2 12 0 m)] (g, δ2)
  refine a_iload 1 (μ := m_L_law) (pc := 770) dL_law_770 rfl ?_
  refine a_icmp_eq 777 (μ := m_L_law) (pc := 772) dL_law_772 (by decide) (fun _ => ?_) (fun z => absurd h3 z)
  refine a_iload 1 (μ := m_L_law) (pc := 777) dL_law_777 rfl ?_
  refine a_if_ne 794 (μ := m_L_law) (pc := 779) dL_law_779 (by decide) (fun _ => ?_) (fun z => ?_)
  · refine a_goto 2457 (μ := m_L_law) (pc := 794) dL_law_794 (by decide) ?_
    exact a_lv [2, 3, 4, 5, 6] rfl K
  · refine a_aload_n 3 3 (μ := m_L_law) (pc := 782) dL_law_782 rfl rfl ?_
    refine a_iconst (v := 0) (μ := m_L_law) (pc := 783) dL_law_783 (by decide) ?_
    refine a_lald (μ := m_L_law) (pc := 784) dL_law_784 ko (vp_n (by rw [ho]; decide)) ?_
    rw [z_nat]
    refine a_iload 0 (μ := m_L_law) (pc := 785) dL_law_785 rfl ?_
    refine a_i2l (μ := m_L_law) (pc := 787) dL_law_787 ?_
    refine a_lcmp (μ := m_L_law) (pc := 788) dL_law_788 ?_
    rw [h4 z, lg_self]
    refine a_if_eq 794 (μ := m_L_law) (pc := 789) dL_law_789 (by decide) (fun _ => ?_) (fun z => absurd rfl z)
    refine a_goto 2457 (μ := m_L_law) (pc := 794) dL_law_794 (by decide) ?_
    exact a_lv [2, 3, 4, 5, 6] rfl K
set_option maxHeartbeats 4000000 in
theorem lw_10 {l : Launch} {D : va_G} {cy : Nat → ClassId} {N d rc rs : Nat} {P : Option Value → hp → Prop} {X : String → hp → Prop} {g : gp} (wt : WT g) (hl : l.stackTraces = false) (hd : 91 ≤ d) {x m o : Nat} {i : Int32} {δ : dp} (kx : q_K g x = 11) (km : q_K g m = 12) (ko : q_K g o = 14) (ho : q_N g o = 1) (hin : ∀ v : Int32, v ∈ [1, 2, 3, 4, 5] → vp_in (i + v) (D.2 102 1)) {kk b : Int32} {δ1 δ2 : dp} (h1 : D_L_before N g x (sc D (i + 1)) (sc D (i + 2)) o δ = some (kk, δ1)) (h2 : D_X12_before N g m (sc D (i + 1)) (sc D (i + 2)) δ1 = some (b, δ2)) (h3 : q_I δ2 12 0 m = kk) (h4 : kk = 0 → q_J δ2 o 0 = b.toInt64) (K : AW l D cy m_L_law d rc rs P X 2457 (lv0 D x m o i) [] (g, δ2)) : AW l D cy m_L_law d (rc + 3) (rs + 18) P X 797 (lv0 D x m o i) [] (g, δ) := by
  refine a_wk (rc' := rc + 3) (rs' := rs + 18) (by omega) (by omega) ?_
  refine a_aload_n 3 1 (μ := m_L_law) (pc := 797) dL_law_797 rfl rfl ?_
  refine l_arg (v := 1) 4 0 798 dL_law_798 dL_law_799 dL_law_801 dL_law_802 dL_law_803 rfl rfl (by decide) (hin 1 (by decide)) ?_
  refine l_arg (v := 2) 4 0 804 dL_law_804 dL_law_805 dL_law_807 dL_law_808 dL_law_809 rfl rfl (by decide) (hin 2 (by decide)) ?_
  refine a_aload_n 1 3 (μ := m_L_law) (pc := 810) dL_law_810 rfl rfl ?_
  refine a_callH (hh := hh_before) (h := (g, δ)) (rc' := rc) (rs' := rs) (mc' := 2) (ms' := 12) (As := [.ref x, .int (sc D (i + 1)), .int (sc D (i + 2)), .ref o]) (rest := []) (μ := m_L_law) (pc := 811) dL_law_811 ch_152 rfl (Nat.le_of_ble_eq_true rfl) (d' := d - 1) (by omega) (by omega) (by omega) (c_L_before (N := N) wt hl (d := d - 1) (by omega) kx ko (kk, δ1) h1 ?_)
  show AW _ _ _ _ _ _ _ _ _ (811 + 3) _ [.int kk] (g, δ1)
  refine a_istore ((5, .int kk) :: lv0 D x m o i) (μ := m_L_law) (pc := 814) dL_law_814 (by decide) rfl ?_
  refine a_aload_n 3 2 (μ := m_L_law) (pc := 816) dL_law_816 rfl rfl ?_
  refine l_arg (v := 1) 5 1 817 dL_law_817 dL_law_818 dL_law_820 dL_law_821 dL_law_822 rfl rfl (by decide) (hin 1 (by decide)) ?_
  refine l_arg (v := 2) 5 1 823 dL_law_823 dL_law_824 dL_law_826 dL_law_827 dL_law_828 rfl rfl (by decide) (hin 2 (by decide)) ?_
  refine a_callV (h := (g, δ1)) (rc' := rc) (rs' := rs) (As := [.int (sc D (i + 1)), .int (sc D (i + 2))]) (rest := []) (μ := m_L_law) (pc := 829) dL_law_829 cv_L_154 rfl km (by decide) rfl (Nat.le_of_ble_eq_true rfl) (d' := d - 1) (by omega) (by omega) (by omega) (c_X12_before (N := N) wt hl (d := d - 1) (by omega) km (b, δ2) h2 _ _ ?_)
  show AW _ _ _ _ _ _ _ _ _ (829 + 3) _ [.int b] (g, δ2)
  refine a_istore ((6, .int b) :: (5, .int kk) :: lv0 D x m o i) (μ := m_L_law) (pc := 832) dL_law_832 (by decide) rfl ?_
  refine a_aload_n 4 2 (μ := m_L_law) (pc := 834) dL_law_834 rfl rfl ?_
  refine a_callV (h := (g, δ2)) (rc' := rc) (rs' := rs) (As := []) (rest := []) (μ := m_L_law) (pc := 835) dL_law_835 cv_L_122 rfl km (by decide) rfl (Nat.le_of_ble_eq_true rfl) (d' := d - 1) (by omega) (by omega) (by omega) (c_X12_thrown (N := N) wt hl (d := d - 1) (by omega) km (q_I δ2 12 0 m, δ2) rfl _ _ ?_)
  show AW _ _ _ _ _ _ _ _ _ (835 + 3) _ [.int (q_I δ2 12 0 m)] (g, δ2)
  refine a_iload 1 (μ := m_L_law) (pc := 838) dL_law_838 rfl ?_
  refine a_icmp_eq 845 (μ := m_L_law) (pc := 840) dL_law_840 (by decide) (fun _ => ?_) (fun z => absurd h3 z)
  refine a_iload 1 (μ := m_L_law) (pc := 845) dL_law_845 rfl ?_
  refine a_if_ne 862 (μ := m_L_law) (pc := 847) dL_law_847 (by decide) (fun _ => ?_) (fun z => ?_)
  · refine a_goto 2457 (μ := m_L_law) (pc := 862) dL_law_862 (by decide) ?_
    exact a_lv [2, 3, 4, 5, 6] rfl K
  · refine a_aload_n 3 3 (μ := m_L_law) (pc := 850) dL_law_850 rfl rfl ?_
    refine a_iconst (v := 0) (μ := m_L_law) (pc := 851) dL_law_851 (by decide) ?_
    refine a_lald (μ := m_L_law) (pc := 852) dL_law_852 ko (vp_n (by rw [ho]; decide)) ?_
    rw [z_nat]
    refine a_iload 0 (μ := m_L_law) (pc := 853) dL_law_853 rfl ?_
    refine a_i2l (μ := m_L_law) (pc := 855) dL_law_855 ?_
    refine a_lcmp (μ := m_L_law) (pc := 856) dL_law_856 ?_
    rw [h4 z, lg_self]
    refine a_if_eq 862 (μ := m_L_law) (pc := 857) dL_law_857 (by decide) (fun _ => ?_) (fun z => absurd rfl z)
    refine a_goto 2457 (μ := m_L_law) (pc := 862) dL_law_862 (by decide) ?_
    exact a_lv [2, 3, 4, 5, 6] rfl K
set_option maxHeartbeats 4000000 in
theorem lw_11 {l : Launch} {D : va_G} {cy : Nat → ClassId} {N d rc rs : Nat} {P : Option Value → hp → Prop} {X : String → hp → Prop} {g : gp} (wt : WT g) (hl : l.stackTraces = false) (hd : 91 ≤ d) {x m o : Nat} {i : Int32} {δ : dp} (kx : q_K g x = 11) (km : q_K g m = 12) (ko : q_K g o = 14) (ho : q_N g o = 1) (hin : ∀ v : Int32, v ∈ [1, 2, 3, 4, 5] → vp_in (i + v) (D.2 102 1)) {kk b : Int32} {δ1 δ2 : dp} (h1 : D_L_kth N g x (sc D (i + 1)) (sc D (i + 2)) o δ = some (kk, δ1)) (h2 : D_X12_kth N g m (sc D (i + 1)) (sc D (i + 2)) δ1 = some (b, δ2)) (h3 : q_I δ2 12 0 m = kk) (h4 : kk = 0 → q_J δ2 o 0 = b.toInt64) (K : AW l D cy m_L_law d rc rs P X 2457 (lv0 D x m o i) [] (g, δ2)) : AW l D cy m_L_law d (rc + 3) (rs + 18) P X 865 (lv0 D x m o i) [] (g, δ) := by
  refine a_wk (rc' := rc + 3) (rs' := rs + 18) (by omega) (by omega) ?_
  refine a_aload_n 3 1 (μ := m_L_law) (pc := 865) dL_law_865 rfl rfl ?_
  refine l_arg (v := 1) 4 0 866 dL_law_866 dL_law_867 dL_law_869 dL_law_870 dL_law_871 rfl rfl (by decide) (hin 1 (by decide)) ?_
  refine l_arg (v := 2) 4 0 872 dL_law_872 dL_law_873 dL_law_875 dL_law_876 dL_law_877 rfl rfl (by decide) (hin 2 (by decide)) ?_
  refine a_aload_n 1 3 (μ := m_L_law) (pc := 878) dL_law_878 rfl rfl ?_
  refine a_callH (hh := hh_kth) (h := (g, δ)) (rc' := rc) (rs' := rs) (mc' := 1) (ms' := 6) (As := [.ref x, .int (sc D (i + 1)), .int (sc D (i + 2)), .ref o]) (rest := []) (μ := m_L_law) (pc := 879) dL_law_879 ch_155 rfl (Nat.le_of_ble_eq_true rfl) (d' := d - 1) (by omega) (by omega) (by omega) (c_L_kth (N := N) wt hl (d := d - 1) (by omega) kx ko (kk, δ1) h1 ?_)
  show AW _ _ _ _ _ _ _ _ _ (879 + 3) _ [.int kk] (g, δ1)
  refine a_istore ((5, .int kk) :: lv0 D x m o i) (μ := m_L_law) (pc := 882) dL_law_882 (by decide) rfl ?_
  refine a_aload_n 3 2 (μ := m_L_law) (pc := 884) dL_law_884 rfl rfl ?_
  refine l_arg (v := 1) 5 1 885 dL_law_885 dL_law_886 dL_law_888 dL_law_889 dL_law_890 rfl rfl (by decide) (hin 1 (by decide)) ?_
  refine l_arg (v := 2) 5 1 891 dL_law_891 dL_law_892 dL_law_894 dL_law_895 dL_law_896 rfl rfl (by decide) (hin 2 (by decide)) ?_
  refine a_callV (h := (g, δ1)) (rc' := rc) (rs' := rs) (As := [.int (sc D (i + 1)), .int (sc D (i + 2))]) (rest := []) (μ := m_L_law) (pc := 897) dL_law_897 cv_L_157 rfl km (by decide) rfl (Nat.le_of_ble_eq_true rfl) (d' := d - 1) (by omega) (by omega) (by omega) (c_X12_kth (N := N) wt hl (d := d - 1) (by omega) km (b, δ2) h2 _ _ ?_)
  show AW _ _ _ _ _ _ _ _ _ (897 + 3) _ [.int b] (g, δ2)
  refine a_istore ((6, .int b) :: (5, .int kk) :: lv0 D x m o i) (μ := m_L_law) (pc := 900) dL_law_900 (by decide) rfl ?_
  refine a_aload_n 4 2 (μ := m_L_law) (pc := 902) dL_law_902 rfl rfl ?_
  refine a_callV (h := (g, δ2)) (rc' := rc) (rs' := rs) (As := []) (rest := []) (μ := m_L_law) (pc := 903) dL_law_903 cv_L_122 rfl km (by decide) rfl (Nat.le_of_ble_eq_true rfl) (d' := d - 1) (by omega) (by omega) (by omega) (c_X12_thrown (N := N) wt hl (d := d - 1) (by omega) km (q_I δ2 12 0 m, δ2) rfl _ _ ?_)
  show AW _ _ _ _ _ _ _ _ _ (903 + 3) _ [.int (q_I δ2 12 0 m)] (g, δ2)
  refine a_iload 1 (μ := m_L_law) (pc := 906) dL_law_906 rfl ?_
  refine a_icmp_eq 913 (μ := m_L_law) (pc := 908) dL_law_908 (by decide) (fun _ => ?_) (fun z => absurd h3 z)
  refine a_iload 1 (μ := m_L_law) (pc := 913) dL_law_913 rfl ?_
  refine a_if_ne 930 (μ := m_L_law) (pc := 915) dL_law_915 (by decide) (fun _ => ?_) (fun z => ?_)
  · refine a_goto 2457 (μ := m_L_law) (pc := 930) dL_law_930 (by decide) ?_
    exact a_lv [2, 3, 4, 5, 6] rfl K
  · refine a_aload_n 3 3 (μ := m_L_law) (pc := 918) dL_law_918 rfl rfl ?_
    refine a_iconst (v := 0) (μ := m_L_law) (pc := 919) dL_law_919 (by decide) ?_
    refine a_lald (μ := m_L_law) (pc := 920) dL_law_920 ko (vp_n (by rw [ho]; decide)) ?_
    rw [z_nat]
    refine a_iload 0 (μ := m_L_law) (pc := 921) dL_law_921 rfl ?_
    refine a_i2l (μ := m_L_law) (pc := 923) dL_law_923 ?_
    refine a_lcmp (μ := m_L_law) (pc := 924) dL_law_924 ?_
    rw [h4 z, lg_self]
    refine a_if_eq 930 (μ := m_L_law) (pc := 925) dL_law_925 (by decide) (fun _ => ?_) (fun z => absurd rfl z)
    refine a_goto 2457 (μ := m_L_law) (pc := 930) dL_law_930 (by decide) ?_
    exact a_lv [2, 3, 4, 5, 6] rfl K
set_option maxHeartbeats 4000000 in
theorem lw_12 {l : Launch} {D : va_G} {cy : Nat → ClassId} {N d rc rs : Nat} {P : Option Value → hp → Prop} {X : String → hp → Prop} {g : gp} (wt : WT g) (hl : l.stackTraces = false) (hd : 91 ≤ d) {x m o : Nat} {i : Int32} {δ : dp} (kx : q_K g x = 11) (km : q_K g m = 12) (ko : q_K g o = 14) (ho : q_N g o = 1) (hin : ∀ v : Int32, v ∈ [1, 2, 3, 4, 5] → vp_in (i + v) (D.2 102 1)) {kk b : Int32} {δ1 δ2 : dp} (h1 : D_L_between N g x (sc D (i + 1)) (sc D (i + 2)) (sc D (i + 3)) o δ = some (kk, δ1)) (h2 : D_X12_between N g m (sc D (i + 1)) (sc D (i + 2)) (sc D (i + 3)) δ1 = some (b, δ2)) (h3 : q_I δ2 12 0 m = kk) (h4 : kk = 0 → q_J δ2 o 0 = b.toInt64) (K : AW l D cy m_L_law d rc rs P X 2457 (lv0 D x m o i) [] (g, δ2)) : AW l D cy m_L_law d (rc + 3) (rs + 18) P X 933 (lv0 D x m o i) [] (g, δ) := by
  refine a_wk (rc' := rc + 3) (rs' := rs + 18) (by omega) (by omega) ?_
  refine a_aload_n 3 1 (μ := m_L_law) (pc := 933) dL_law_933 rfl rfl ?_
  refine l_arg (v := 1) 4 0 934 dL_law_934 dL_law_935 dL_law_937 dL_law_938 dL_law_939 rfl rfl (by decide) (hin 1 (by decide)) ?_
  refine l_arg (v := 2) 4 0 940 dL_law_940 dL_law_941 dL_law_943 dL_law_944 dL_law_945 rfl rfl (by decide) (hin 2 (by decide)) ?_
  refine l_arg (v := 3) 4 0 946 dL_law_946 dL_law_947 dL_law_949 dL_law_950 dL_law_951 rfl rfl (by decide) (hin 3 (by decide)) ?_
  refine a_aload_n 1 3 (μ := m_L_law) (pc := 952) dL_law_952 rfl rfl ?_
  refine a_callH (hh := hh_between) (h := (g, δ)) (rc' := rc) (rs' := rs) (mc' := 2) (ms' := 12) (As := [.ref x, .int (sc D (i + 1)), .int (sc D (i + 2)), .int (sc D (i + 3)), .ref o]) (rest := []) (μ := m_L_law) (pc := 953) dL_law_953 ch_158 rfl (Nat.le_of_ble_eq_true rfl) (d' := d - 1) (by omega) (by omega) (by omega) (c_L_between (N := N) wt hl (d := d - 1) (by omega) kx ko (kk, δ1) h1 ?_)
  show AW _ _ _ _ _ _ _ _ _ (953 + 3) _ [.int kk] (g, δ1)
  refine a_istore ((5, .int kk) :: lv0 D x m o i) (μ := m_L_law) (pc := 956) dL_law_956 (by decide) rfl ?_
  refine a_aload_n 3 2 (μ := m_L_law) (pc := 958) dL_law_958 rfl rfl ?_
  refine l_arg (v := 1) 5 1 959 dL_law_959 dL_law_960 dL_law_962 dL_law_963 dL_law_964 rfl rfl (by decide) (hin 1 (by decide)) ?_
  refine l_arg (v := 2) 5 1 965 dL_law_965 dL_law_966 dL_law_968 dL_law_969 dL_law_970 rfl rfl (by decide) (hin 2 (by decide)) ?_
  refine l_arg (v := 3) 5 1 971 dL_law_971 dL_law_972 dL_law_974 dL_law_975 dL_law_976 rfl rfl (by decide) (hin 3 (by decide)) ?_
  refine a_callV (h := (g, δ1)) (rc' := rc) (rs' := rs) (As := [.int (sc D (i + 1)), .int (sc D (i + 2)), .int (sc D (i + 3))]) (rest := []) (μ := m_L_law) (pc := 977) dL_law_977 cv_L_161 rfl km (by decide) rfl (Nat.le_of_ble_eq_true rfl) (d' := d - 1) (by omega) (by omega) (by omega) (c_X12_between (N := N) wt hl (d := d - 1) (by omega) km (b, δ2) h2 _ _ ?_)
  show AW _ _ _ _ _ _ _ _ _ (977 + 3) _ [.int b] (g, δ2)
  refine a_istore ((6, .int b) :: (5, .int kk) :: lv0 D x m o i) (μ := m_L_law) (pc := 980) dL_law_980 (by decide) rfl ?_
  refine a_aload_n 4 2 (μ := m_L_law) (pc := 982) dL_law_982 rfl rfl ?_
  refine a_callV (h := (g, δ2)) (rc' := rc) (rs' := rs) (As := []) (rest := []) (μ := m_L_law) (pc := 983) dL_law_983 cv_L_122 rfl km (by decide) rfl (Nat.le_of_ble_eq_true rfl) (d' := d - 1) (by omega) (by omega) (by omega) (c_X12_thrown (N := N) wt hl (d := d - 1) (by omega) km (q_I δ2 12 0 m, δ2) rfl _ _ ?_)
  show AW _ _ _ _ _ _ _ _ _ (983 + 3) _ [.int (q_I δ2 12 0 m)] (g, δ2)
  refine a_iload 1 (μ := m_L_law) (pc := 986) dL_law_986 rfl ?_
  refine a_icmp_eq 993 (μ := m_L_law) (pc := 988) dL_law_988 (by decide) (fun _ => ?_) (fun z => absurd h3 z)
  refine a_iload 1 (μ := m_L_law) (pc := 993) dL_law_993 rfl ?_
  refine a_if_ne 1010 (μ := m_L_law) (pc := 995) dL_law_995 (by decide) (fun _ => ?_) (fun z => ?_)
  · refine a_goto 2457 (μ := m_L_law) (pc := 1010) dL_law_1010 (by decide) ?_
    exact a_lv [2, 3, 4, 5, 6] rfl K
  · refine a_aload_n 3 3 (μ := m_L_law) (pc := 998) dL_law_998 rfl rfl ?_
    refine a_iconst (v := 0) (μ := m_L_law) (pc := 999) dL_law_999 (by decide) ?_
    refine a_lald (μ := m_L_law) (pc := 1000) dL_law_1000 ko (vp_n (by rw [ho]; decide)) ?_
    rw [z_nat]
    refine a_iload 0 (μ := m_L_law) (pc := 1001) dL_law_1001 rfl ?_
    refine a_i2l (μ := m_L_law) (pc := 1003) dL_law_1003 ?_
    refine a_lcmp (μ := m_L_law) (pc := 1004) dL_law_1004 ?_
    rw [h4 z, lg_self]
    refine a_if_eq 1010 (μ := m_L_law) (pc := 1005) dL_law_1005 (by decide) (fun _ => ?_) (fun z => absurd rfl z)
    refine a_goto 2457 (μ := m_L_law) (pc := 1010) dL_law_1010 (by decide) ?_
    exact a_lv [2, 3, 4, 5, 6] rfl K
set_option maxHeartbeats 4000000 in
theorem lw_13 {l : Launch} {D : va_G} {cy : Nat → ClassId} {N d rc rs : Nat} {P : Option Value → hp → Prop} {X : String → hp → Prop} {g : gp} (wt : WT g) (hl : l.stackTraces = false) (hd : 91 ≤ d) {x m o : Nat} {i : Int32} {δ : dp} (kx : q_K g x = 11) (km : q_K g m = 12) (ko : q_K g o = 14) (ho : q_N g o = 1) (hin : ∀ v : Int32, v ∈ [1, 2, 3, 4, 5] → vp_in (i + v) (D.2 102 1)) {kk b : Int32} {δ1 δ2 : dp} (h1 : D_L_touches N g x (sc D (i + 1)) (sc D (i + 2)) (sc D (i + 3)) (sc D (i + 4)) o δ = some (kk, δ1)) (h2 : D_X12_touches N g m (sc D (i + 1)) (sc D (i + 2)) (sc D (i + 3)) (sc D (i + 4)) δ1 = some (b, δ2)) (h3 : q_I δ2 12 0 m = kk) (h4 : kk = 0 → q_J δ2 o 0 = b.toInt64) (K : AW l D cy m_L_law d rc rs P X 2457 (lv0 D x m o i) [] (g, δ2)) : AW l D cy m_L_law d (rc + 3) (rs + 18) P X 1013 (lv0 D x m o i) [] (g, δ) := by
  refine a_wk (rc' := rc + 3) (rs' := rs + 18) (by omega) (by omega) ?_
  refine a_aload_n 3 1 (μ := m_L_law) (pc := 1013) dL_law_1013 rfl rfl ?_
  refine l_arg (v := 1) 4 0 1014 dL_law_1014 dL_law_1015 dL_law_1017 dL_law_1018 dL_law_1019 rfl rfl (by decide) (hin 1 (by decide)) ?_
  refine l_arg (v := 2) 4 0 1020 dL_law_1020 dL_law_1021 dL_law_1023 dL_law_1024 dL_law_1025 rfl rfl (by decide) (hin 2 (by decide)) ?_
  refine l_arg (v := 3) 4 0 1026 dL_law_1026 dL_law_1027 dL_law_1029 dL_law_1030 dL_law_1031 rfl rfl (by decide) (hin 3 (by decide)) ?_
  refine l_arg (v := 4) 4 0 1032 dL_law_1032 dL_law_1033 dL_law_1035 dL_law_1036 dL_law_1037 rfl rfl (by decide) (hin 4 (by decide)) ?_
  refine a_aload_n 1 3 (μ := m_L_law) (pc := 1038) dL_law_1038 rfl rfl ?_
  refine a_callH (hh := hh_touches) (h := (g, δ)) (rc' := rc) (rs' := rs) (mc' := 2) (ms' := 12) (As := [.ref x, .int (sc D (i + 1)), .int (sc D (i + 2)), .int (sc D (i + 3)), .int (sc D (i + 4)), .ref o]) (rest := []) (μ := m_L_law) (pc := 1039) dL_law_1039 ch_162 rfl (Nat.le_of_ble_eq_true rfl) (d' := d - 1) (by omega) (by omega) (by omega) (c_L_touches (N := N) wt hl (d := d - 1) (by omega) kx ko (kk, δ1) h1 ?_)
  show AW _ _ _ _ _ _ _ _ _ (1039 + 3) _ [.int kk] (g, δ1)
  refine a_istore ((5, .int kk) :: lv0 D x m o i) (μ := m_L_law) (pc := 1042) dL_law_1042 (by decide) rfl ?_
  refine a_aload_n 3 2 (μ := m_L_law) (pc := 1044) dL_law_1044 rfl rfl ?_
  refine l_arg (v := 1) 5 1 1045 dL_law_1045 dL_law_1046 dL_law_1048 dL_law_1049 dL_law_1050 rfl rfl (by decide) (hin 1 (by decide)) ?_
  refine l_arg (v := 2) 5 1 1051 dL_law_1051 dL_law_1052 dL_law_1054 dL_law_1055 dL_law_1056 rfl rfl (by decide) (hin 2 (by decide)) ?_
  refine l_arg (v := 3) 5 1 1057 dL_law_1057 dL_law_1058 dL_law_1060 dL_law_1061 dL_law_1062 rfl rfl (by decide) (hin 3 (by decide)) ?_
  refine l_arg (v := 4) 5 1 1063 dL_law_1063 dL_law_1064 dL_law_1066 dL_law_1067 dL_law_1068 rfl rfl (by decide) (hin 4 (by decide)) ?_
  refine a_callV (h := (g, δ1)) (rc' := rc) (rs' := rs) (As := [.int (sc D (i + 1)), .int (sc D (i + 2)), .int (sc D (i + 3)), .int (sc D (i + 4))]) (rest := []) (μ := m_L_law) (pc := 1069) dL_law_1069 cv_L_165 rfl km (by decide) rfl (Nat.le_of_ble_eq_true rfl) (d' := d - 1) (by omega) (by omega) (by omega) (c_X12_touches (N := N) wt hl (d := d - 1) (by omega) km (b, δ2) h2 _ _ ?_)
  show AW _ _ _ _ _ _ _ _ _ (1069 + 3) _ [.int b] (g, δ2)
  refine a_istore ((6, .int b) :: (5, .int kk) :: lv0 D x m o i) (μ := m_L_law) (pc := 1072) dL_law_1072 (by decide) rfl ?_
  refine a_aload_n 4 2 (μ := m_L_law) (pc := 1074) dL_law_1074 rfl rfl ?_
  refine a_callV (h := (g, δ2)) (rc' := rc) (rs' := rs) (As := []) (rest := []) (μ := m_L_law) (pc := 1075) dL_law_1075 cv_L_122 rfl km (by decide) rfl (Nat.le_of_ble_eq_true rfl) (d' := d - 1) (by omega) (by omega) (by omega) (c_X12_thrown (N := N) wt hl (d := d - 1) (by omega) km (q_I δ2 12 0 m, δ2) rfl _ _ ?_)
  show AW _ _ _ _ _ _ _ _ _ (1075 + 3) _ [.int (q_I δ2 12 0 m)] (g, δ2)
  refine a_iload 1 (μ := m_L_law) (pc := 1078) dL_law_1078 rfl ?_
  refine a_icmp_eq 1085 (μ := m_L_law) (pc := 1080) dL_law_1080 (by decide) (fun _ => ?_) (fun z => absurd h3 z)
  refine a_iload 1 (μ := m_L_law) (pc := 1085) dL_law_1085 rfl ?_
  refine a_if_ne 1102 (μ := m_L_law) (pc := 1087) dL_law_1087 (by decide) (fun _ => ?_) (fun z => ?_)
  · refine a_goto 2457 (μ := m_L_law) (pc := 1102) dL_law_1102 (by decide) ?_
    exact a_lv [2, 3, 4, 5, 6] rfl K
  · refine a_aload_n 3 3 (μ := m_L_law) (pc := 1090) dL_law_1090 rfl rfl ?_
    refine a_iconst (v := 0) (μ := m_L_law) (pc := 1091) dL_law_1091 (by decide) ?_
    refine a_lald (μ := m_L_law) (pc := 1092) dL_law_1092 ko (vp_n (by rw [ho]; decide)) ?_
    rw [z_nat]
    refine a_iload 0 (μ := m_L_law) (pc := 1093) dL_law_1093 rfl ?_
    refine a_i2l (μ := m_L_law) (pc := 1095) dL_law_1095 ?_
    refine a_lcmp (μ := m_L_law) (pc := 1096) dL_law_1096 ?_
    rw [h4 z, lg_self]
    refine a_if_eq 1102 (μ := m_L_law) (pc := 1097) dL_law_1097 (by decide) (fun _ => ?_) (fun z => absurd rfl z)
    refine a_goto 2457 (μ := m_L_law) (pc := 1102) dL_law_1102 (by decide) ?_
    exact a_lv [2, 3, 4, 5, 6] rfl K
set_option maxHeartbeats 4000000 in
theorem lw_14 {l : Launch} {D : va_G} {cy : Nat → ClassId} {N d rc rs : Nat} {P : Option Value → hp → Prop} {X : String → hp → Prop} {g : gp} (wt : WT g) (hl : l.stackTraces = false) (hd : 91 ≤ d) {x m o : Nat} {i : Int32} {δ : dp} (kx : q_K g x = 11) (km : q_K g m = 12) (ko : q_K g o = 14) (ho : q_N g o = 1) (hin : ∀ v : Int32, v ∈ [1, 2, 3, 4, 5] → vp_in (i + v) (D.2 102 1)) {kk b : Int32} {δ1 δ2 : dp} (h1 : D_L_size N g x (sc D (i + 1)) (sc D (i + 2)) o δ = some (kk, δ1)) (h2 : D_X12_size N g m (sc D (i + 1)) (sc D (i + 2)) δ1 = some (b, δ2)) (h3 : q_I δ2 12 0 m = kk) (h4 : kk = 0 → q_J δ2 o 0 = b.toInt64) (K : AW l D cy m_L_law d rc rs P X 2457 (lv0 D x m o i) [] (g, δ2)) : AW l D cy m_L_law d (rc + 3) (rs + 18) P X 1105 (lv0 D x m o i) [] (g, δ) := by
  refine a_wk (rc' := rc + 3) (rs' := rs + 18) (by omega) (by omega) ?_
  refine a_aload_n 3 1 (μ := m_L_law) (pc := 1105) dL_law_1105 rfl rfl ?_
  refine l_arg (v := 1) 4 0 1106 dL_law_1106 dL_law_1107 dL_law_1109 dL_law_1110 dL_law_1111 rfl rfl (by decide) (hin 1 (by decide)) ?_
  refine l_arg (v := 2) 4 0 1112 dL_law_1112 dL_law_1113 dL_law_1115 dL_law_1116 dL_law_1117 rfl rfl (by decide) (hin 2 (by decide)) ?_
  refine a_aload_n 1 3 (μ := m_L_law) (pc := 1118) dL_law_1118 rfl rfl ?_
  refine a_callH (hh := hh_size) (h := (g, δ)) (rc' := rc) (rs' := rs) (mc' := 2) (ms' := 12) (As := [.ref x, .int (sc D (i + 1)), .int (sc D (i + 2)), .ref o]) (rest := []) (μ := m_L_law) (pc := 1119) dL_law_1119 ch_166 rfl (Nat.le_of_ble_eq_true rfl) (d' := d - 1) (by omega) (by omega) (by omega) (c_L_size (N := N) wt hl (d := d - 1) (by omega) kx ko (kk, δ1) h1 ?_)
  show AW _ _ _ _ _ _ _ _ _ (1119 + 3) _ [.int kk] (g, δ1)
  refine a_istore ((5, .int kk) :: lv0 D x m o i) (μ := m_L_law) (pc := 1122) dL_law_1122 (by decide) rfl ?_
  refine a_aload_n 3 2 (μ := m_L_law) (pc := 1124) dL_law_1124 rfl rfl ?_
  refine l_arg (v := 1) 5 1 1125 dL_law_1125 dL_law_1126 dL_law_1128 dL_law_1129 dL_law_1130 rfl rfl (by decide) (hin 1 (by decide)) ?_
  refine l_arg (v := 2) 5 1 1131 dL_law_1131 dL_law_1132 dL_law_1134 dL_law_1135 dL_law_1136 rfl rfl (by decide) (hin 2 (by decide)) ?_
  refine a_callV (h := (g, δ1)) (rc' := rc) (rs' := rs) (As := [.int (sc D (i + 1)), .int (sc D (i + 2))]) (rest := []) (μ := m_L_law) (pc := 1137) dL_law_1137 cv_L_168 rfl km (by decide) rfl (Nat.le_of_ble_eq_true rfl) (d' := d - 1) (by omega) (by omega) (by omega) (c_X12_size (N := N) wt hl (d := d - 1) (by omega) km (b, δ2) h2 _ _ ?_)
  show AW _ _ _ _ _ _ _ _ _ (1137 + 3) _ [.int b] (g, δ2)
  refine a_istore ((6, .int b) :: (5, .int kk) :: lv0 D x m o i) (μ := m_L_law) (pc := 1140) dL_law_1140 (by decide) rfl ?_
  refine a_aload_n 4 2 (μ := m_L_law) (pc := 1142) dL_law_1142 rfl rfl ?_
  refine a_callV (h := (g, δ2)) (rc' := rc) (rs' := rs) (As := []) (rest := []) (μ := m_L_law) (pc := 1143) dL_law_1143 cv_L_122 rfl km (by decide) rfl (Nat.le_of_ble_eq_true rfl) (d' := d - 1) (by omega) (by omega) (by omega) (c_X12_thrown (N := N) wt hl (d := d - 1) (by omega) km (q_I δ2 12 0 m, δ2) rfl _ _ ?_)
  show AW _ _ _ _ _ _ _ _ _ (1143 + 3) _ [.int (q_I δ2 12 0 m)] (g, δ2)
  refine a_iload 1 (μ := m_L_law) (pc := 1146) dL_law_1146 rfl ?_
  refine a_icmp_eq 1153 (μ := m_L_law) (pc := 1148) dL_law_1148 (by decide) (fun _ => ?_) (fun z => absurd h3 z)
  refine a_iload 1 (μ := m_L_law) (pc := 1153) dL_law_1153 rfl ?_
  refine a_if_ne 1170 (μ := m_L_law) (pc := 1155) dL_law_1155 (by decide) (fun _ => ?_) (fun z => ?_)
  · refine a_goto 2457 (μ := m_L_law) (pc := 1170) dL_law_1170 (by decide) ?_
    exact a_lv [2, 3, 4, 5, 6] rfl K
  · refine a_aload_n 3 3 (μ := m_L_law) (pc := 1158) dL_law_1158 rfl rfl ?_
    refine a_iconst (v := 0) (μ := m_L_law) (pc := 1159) dL_law_1159 (by decide) ?_
    refine a_lald (μ := m_L_law) (pc := 1160) dL_law_1160 ko (vp_n (by rw [ho]; decide)) ?_
    rw [z_nat]
    refine a_iload 0 (μ := m_L_law) (pc := 1161) dL_law_1161 rfl ?_
    refine a_i2l (μ := m_L_law) (pc := 1163) dL_law_1163 ?_
    refine a_lcmp (μ := m_L_law) (pc := 1164) dL_law_1164 ?_
    rw [h4 z, lg_self]
    refine a_if_eq 1170 (μ := m_L_law) (pc := 1165) dL_law_1165 (by decide) (fun _ => ?_) (fun z => absurd rfl z)
    refine a_goto 2457 (μ := m_L_law) (pc := 1170) dL_law_1170 (by decide) ?_
    exact a_lv [2, 3, 4, 5, 6] rfl K
set_option maxHeartbeats 4000000 in
theorem lw_15 {l : Launch} {D : va_G} {cy : Nat → ClassId} {N d rc rs : Nat} {P : Option Value → hp → Prop} {X : String → hp → Prop} {g : gp} (wt : WT g) (hl : l.stackTraces = false) (hd : 91 ≤ d) {x m o : Nat} {i : Int32} {δ : dp} (kx : q_K g x = 11) (km : q_K g m = 12) (ko : q_K g o = 14) (ho : q_N g o = 1) (hin : ∀ v : Int32, v ∈ [1, 2, 3, 4, 5] → vp_in (i + v) (D.2 102 1)) {kk b : Int32} {δ1 δ2 : dp} (h1 : D_L_bound N g x (sc D (i + 1)) o δ = some (kk, δ1)) (h2 : D_X12_bound N g m (sc D (i + 1)) δ1 = some (b, δ2)) (h3 : q_I δ2 12 0 m = kk) (h4 : kk = 0 → q_J δ2 o 0 = b.toInt64) (K : AW l D cy m_L_law d rc rs P X 2457 (lv0 D x m o i) [] (g, δ2)) : AW l D cy m_L_law d (rc + 3) (rs + 18) P X 1173 (lv0 D x m o i) [] (g, δ) := by
  refine a_wk (rc' := rc + 3) (rs' := rs + 18) (by omega) (by omega) ?_
  refine a_aload_n 3 1 (μ := m_L_law) (pc := 1173) dL_law_1173 rfl rfl ?_
  refine l_arg (v := 1) 4 0 1174 dL_law_1174 dL_law_1175 dL_law_1177 dL_law_1178 dL_law_1179 rfl rfl (by decide) (hin 1 (by decide)) ?_
  refine a_aload_n 1 3 (μ := m_L_law) (pc := 1180) dL_law_1180 rfl rfl ?_
  refine a_callH (hh := hh_bound) (h := (g, δ)) (rc' := rc) (rs' := rs) (mc' := 1) (ms' := 6) (As := [.ref x, .int (sc D (i + 1)), .ref o]) (rest := []) (μ := m_L_law) (pc := 1181) dL_law_1181 ch_169 rfl (Nat.le_of_ble_eq_true rfl) (d' := d - 1) (by omega) (by omega) (by omega) (c_L_bound (N := N) wt hl (d := d - 1) (by omega) kx ko (kk, δ1) h1 ?_)
  show AW _ _ _ _ _ _ _ _ _ (1181 + 3) _ [.int kk] (g, δ1)
  refine a_istore ((5, .int kk) :: lv0 D x m o i) (μ := m_L_law) (pc := 1184) dL_law_1184 (by decide) rfl ?_
  refine a_aload_n 3 2 (μ := m_L_law) (pc := 1186) dL_law_1186 rfl rfl ?_
  refine l_arg (v := 1) 5 1 1187 dL_law_1187 dL_law_1188 dL_law_1190 dL_law_1191 dL_law_1192 rfl rfl (by decide) (hin 1 (by decide)) ?_
  refine a_callV (h := (g, δ1)) (rc' := rc) (rs' := rs) (As := [.int (sc D (i + 1))]) (rest := []) (μ := m_L_law) (pc := 1193) dL_law_1193 cv_L_171 rfl km (by decide) rfl (Nat.le_of_ble_eq_true rfl) (d' := d - 1) (by omega) (by omega) (by omega) (c_X12_bound (N := N) wt hl (d := d - 1) (by omega) km (b, δ2) h2 _ _ ?_)
  show AW _ _ _ _ _ _ _ _ _ (1193 + 3) _ [.int b] (g, δ2)
  refine a_istore ((6, .int b) :: (5, .int kk) :: lv0 D x m o i) (μ := m_L_law) (pc := 1196) dL_law_1196 (by decide) rfl ?_
  refine a_aload_n 4 2 (μ := m_L_law) (pc := 1198) dL_law_1198 rfl rfl ?_
  refine a_callV (h := (g, δ2)) (rc' := rc) (rs' := rs) (As := []) (rest := []) (μ := m_L_law) (pc := 1199) dL_law_1199 cv_L_122 rfl km (by decide) rfl (Nat.le_of_ble_eq_true rfl) (d' := d - 1) (by omega) (by omega) (by omega) (c_X12_thrown (N := N) wt hl (d := d - 1) (by omega) km (q_I δ2 12 0 m, δ2) rfl _ _ ?_)
  show AW _ _ _ _ _ _ _ _ _ (1199 + 3) _ [.int (q_I δ2 12 0 m)] (g, δ2)
  refine a_iload 1 (μ := m_L_law) (pc := 1202) dL_law_1202 rfl ?_
  refine a_icmp_eq 1209 (μ := m_L_law) (pc := 1204) dL_law_1204 (by decide) (fun _ => ?_) (fun z => absurd h3 z)
  refine a_iload 1 (μ := m_L_law) (pc := 1209) dL_law_1209 rfl ?_
  refine a_if_ne 1226 (μ := m_L_law) (pc := 1211) dL_law_1211 (by decide) (fun _ => ?_) (fun z => ?_)
  · refine a_goto 2457 (μ := m_L_law) (pc := 1226) dL_law_1226 (by decide) ?_
    exact a_lv [2, 3, 4, 5, 6] rfl K
  · refine a_aload_n 3 3 (μ := m_L_law) (pc := 1214) dL_law_1214 rfl rfl ?_
    refine a_iconst (v := 0) (μ := m_L_law) (pc := 1215) dL_law_1215 (by decide) ?_
    refine a_lald (μ := m_L_law) (pc := 1216) dL_law_1216 ko (vp_n (by rw [ho]; decide)) ?_
    rw [z_nat]
    refine a_iload 0 (μ := m_L_law) (pc := 1217) dL_law_1217 rfl ?_
    refine a_i2l (μ := m_L_law) (pc := 1219) dL_law_1219 ?_
    refine a_lcmp (μ := m_L_law) (pc := 1220) dL_law_1220 ?_
    rw [h4 z, lg_self]
    refine a_if_eq 1226 (μ := m_L_law) (pc := 1221) dL_law_1221 (by decide) (fun _ => ?_) (fun z => absurd rfl z)
    refine a_goto 2457 (μ := m_L_law) (pc := 1226) dL_law_1226 (by decide) ?_
    exact a_lv [2, 3, 4, 5, 6] rfl K
set_option maxHeartbeats 4000000 in
theorem lw_16 {l : Launch} {D : va_G} {cy : Nat → ClassId} {N d rc rs : Nat} {P : Option Value → hp → Prop} {X : String → hp → Prop} {g : gp} (wt : WT g) (hl : l.stackTraces = false) (hd : 91 ≤ d) {x m o : Nat} {i : Int32} {δ : dp} (kx : q_K g x = 11) (km : q_K g m = 12) (ko : q_K g o = 14) (ho : q_N g o = 1) (hin : ∀ v : Int32, v ∈ [1, 2, 3, 4, 5] → vp_in (i + v) (D.2 102 1)) {kk b : Int32} {δ1 δ2 : dp} (h1 : D_L_worst N g x (sc D (i + 1)) (sc D (i + 2)) (sc D (i + 3)) o δ = some (kk, δ1)) (h2 : D_X12_worst N g m (sc D (i + 1)) (sc D (i + 2)) (sc D (i + 3)) δ1 = some (b, δ2)) (h3 : q_I δ2 12 0 m = kk) (h4 : kk = 0 → q_J δ2 o 0 = b.toInt64) (K : AW l D cy m_L_law d rc rs P X 2457 (lv0 D x m o i) [] (g, δ2)) : AW l D cy m_L_law d (rc + 3) (rs + 18) P X 1229 (lv0 D x m o i) [] (g, δ) := by
  refine a_wk (rc' := rc + 3) (rs' := rs + 18) (by omega) (by omega) ?_
  refine a_aload_n 3 1 (μ := m_L_law) (pc := 1229) dL_law_1229 rfl rfl ?_
  refine l_arg (v := 1) 4 0 1230 dL_law_1230 dL_law_1231 dL_law_1233 dL_law_1234 dL_law_1235 rfl rfl (by decide) (hin 1 (by decide)) ?_
  refine l_arg (v := 2) 4 0 1236 dL_law_1236 dL_law_1237 dL_law_1239 dL_law_1240 dL_law_1241 rfl rfl (by decide) (hin 2 (by decide)) ?_
  refine l_arg (v := 3) 4 0 1242 dL_law_1242 dL_law_1243 dL_law_1245 dL_law_1246 dL_law_1247 rfl rfl (by decide) (hin 3 (by decide)) ?_
  refine a_aload_n 1 3 (μ := m_L_law) (pc := 1248) dL_law_1248 rfl rfl ?_
  refine a_callH (hh := hh_worst) (h := (g, δ)) (rc' := rc) (rs' := rs) (mc' := 1) (ms' := 6) (As := [.ref x, .int (sc D (i + 1)), .int (sc D (i + 2)), .int (sc D (i + 3)), .ref o]) (rest := []) (μ := m_L_law) (pc := 1249) dL_law_1249 ch_172 rfl (Nat.le_of_ble_eq_true rfl) (d' := d - 1) (by omega) (by omega) (by omega) (c_L_worst (N := N) wt hl (d := d - 1) (by omega) kx ko (kk, δ1) h1 ?_)
  show AW _ _ _ _ _ _ _ _ _ (1249 + 3) _ [.int kk] (g, δ1)
  refine a_istore ((5, .int kk) :: lv0 D x m o i) (μ := m_L_law) (pc := 1252) dL_law_1252 (by decide) rfl ?_
  refine a_aload_n 3 2 (μ := m_L_law) (pc := 1254) dL_law_1254 rfl rfl ?_
  refine l_arg (v := 1) 5 1 1255 dL_law_1255 dL_law_1256 dL_law_1258 dL_law_1259 dL_law_1260 rfl rfl (by decide) (hin 1 (by decide)) ?_
  refine l_arg (v := 2) 5 1 1261 dL_law_1261 dL_law_1262 dL_law_1264 dL_law_1265 dL_law_1266 rfl rfl (by decide) (hin 2 (by decide)) ?_
  refine l_arg (v := 3) 5 1 1267 dL_law_1267 dL_law_1268 dL_law_1270 dL_law_1271 dL_law_1272 rfl rfl (by decide) (hin 3 (by decide)) ?_
  refine a_callV (h := (g, δ1)) (rc' := rc) (rs' := rs) (As := [.int (sc D (i + 1)), .int (sc D (i + 2)), .int (sc D (i + 3))]) (rest := []) (μ := m_L_law) (pc := 1273) dL_law_1273 cv_L_174 rfl km (by decide) rfl (Nat.le_of_ble_eq_true rfl) (d' := d - 1) (by omega) (by omega) (by omega) (c_X12_worst (N := N) wt hl (d := d - 1) (by omega) km (b, δ2) h2 _ _ ?_)
  show AW _ _ _ _ _ _ _ _ _ (1273 + 3) _ [.int b] (g, δ2)
  refine a_istore ((6, .int b) :: (5, .int kk) :: lv0 D x m o i) (μ := m_L_law) (pc := 1276) dL_law_1276 (by decide) rfl ?_
  refine a_aload_n 4 2 (μ := m_L_law) (pc := 1278) dL_law_1278 rfl rfl ?_
  refine a_callV (h := (g, δ2)) (rc' := rc) (rs' := rs) (As := []) (rest := []) (μ := m_L_law) (pc := 1279) dL_law_1279 cv_L_122 rfl km (by decide) rfl (Nat.le_of_ble_eq_true rfl) (d' := d - 1) (by omega) (by omega) (by omega) (c_X12_thrown (N := N) wt hl (d := d - 1) (by omega) km (q_I δ2 12 0 m, δ2) rfl _ _ ?_)
  show AW _ _ _ _ _ _ _ _ _ (1279 + 3) _ [.int (q_I δ2 12 0 m)] (g, δ2)
  refine a_iload 1 (μ := m_L_law) (pc := 1282) dL_law_1282 rfl ?_
  refine a_icmp_eq 1289 (μ := m_L_law) (pc := 1284) dL_law_1284 (by decide) (fun _ => ?_) (fun z => absurd h3 z)
  refine a_iload 1 (μ := m_L_law) (pc := 1289) dL_law_1289 rfl ?_
  refine a_if_ne 1306 (μ := m_L_law) (pc := 1291) dL_law_1291 (by decide) (fun _ => ?_) (fun z => ?_)
  · refine a_goto 2457 (μ := m_L_law) (pc := 1306) dL_law_1306 (by decide) ?_
    exact a_lv [2, 3, 4, 5, 6] rfl K
  · refine a_aload_n 3 3 (μ := m_L_law) (pc := 1294) dL_law_1294 rfl rfl ?_
    refine a_iconst (v := 0) (μ := m_L_law) (pc := 1295) dL_law_1295 (by decide) ?_
    refine a_lald (μ := m_L_law) (pc := 1296) dL_law_1296 ko (vp_n (by rw [ho]; decide)) ?_
    rw [z_nat]
    refine a_iload 0 (μ := m_L_law) (pc := 1297) dL_law_1297 rfl ?_
    refine a_i2l (μ := m_L_law) (pc := 1299) dL_law_1299 ?_
    refine a_lcmp (μ := m_L_law) (pc := 1300) dL_law_1300 ?_
    rw [h4 z, lg_self]
    refine a_if_eq 1306 (μ := m_L_law) (pc := 1301) dL_law_1301 (by decide) (fun _ => ?_) (fun z => absurd rfl z)
    refine a_goto 2457 (μ := m_L_law) (pc := 1306) dL_law_1306 (by decide) ?_
    exact a_lv [2, 3, 4, 5, 6] rfl K
set_option maxHeartbeats 4000000 in
theorem lw_17 {l : Launch} {D : va_G} {cy : Nat → ClassId} {N d rc rs : Nat} {P : Option Value → hp → Prop} {X : String → hp → Prop} {g : gp} (wt : WT g) (hl : l.stackTraces = false) (hd : 91 ≤ d) {x m o : Nat} {i : Int32} {δ : dp} (kx : q_K g x = 11) (km : q_K g m = 12) (ko : q_K g o = 14) (ho : q_N g o = 1) (hin : ∀ v : Int32, v ∈ [1, 2, 3, 4, 5] → vp_in (i + v) (D.2 102 1)) {kk b : Int32} {δ1 δ2 : dp} (h1 : D_L_bad N g x (sc D (i + 1)) (sc D (i + 2)) (sc D (i + 3)) o δ = some (kk, δ1)) (h2 : D_X12_bad N g m (sc D (i + 1)) (sc D (i + 2)) (sc D (i + 3)) δ1 = some (b, δ2)) (h3 : q_I δ2 12 0 m = kk) (h4 : kk = 0 → q_J δ2 o 0 = b.toInt64) (K : AW l D cy m_L_law d rc rs P X 2457 (lv0 D x m o i) [] (g, δ2)) : AW l D cy m_L_law d (rc + 3) (rs + 18) P X 1309 (lv0 D x m o i) [] (g, δ) := by
  refine a_wk (rc' := rc + 3) (rs' := rs + 18) (by omega) (by omega) ?_
  refine a_aload_n 3 1 (μ := m_L_law) (pc := 1309) dL_law_1309 rfl rfl ?_
  refine l_arg (v := 1) 4 0 1310 dL_law_1310 dL_law_1311 dL_law_1313 dL_law_1314 dL_law_1315 rfl rfl (by decide) (hin 1 (by decide)) ?_
  refine l_arg (v := 2) 4 0 1316 dL_law_1316 dL_law_1317 dL_law_1319 dL_law_1320 dL_law_1321 rfl rfl (by decide) (hin 2 (by decide)) ?_
  refine l_arg (v := 3) 4 0 1322 dL_law_1322 dL_law_1323 dL_law_1325 dL_law_1326 dL_law_1327 rfl rfl (by decide) (hin 3 (by decide)) ?_
  refine a_aload_n 1 3 (μ := m_L_law) (pc := 1328) dL_law_1328 rfl rfl ?_
  refine a_callH (hh := hh_bad) (h := (g, δ)) (rc' := rc) (rs' := rs) (mc' := 1) (ms' := 6) (As := [.ref x, .int (sc D (i + 1)), .int (sc D (i + 2)), .int (sc D (i + 3)), .ref o]) (rest := []) (μ := m_L_law) (pc := 1329) dL_law_1329 ch_175 rfl (Nat.le_of_ble_eq_true rfl) (d' := d - 1) (by omega) (by omega) (by omega) (c_L_bad (N := N) wt hl (d := d - 1) (by omega) kx ko (kk, δ1) h1 ?_)
  show AW _ _ _ _ _ _ _ _ _ (1329 + 3) _ [.int kk] (g, δ1)
  refine a_istore ((5, .int kk) :: lv0 D x m o i) (μ := m_L_law) (pc := 1332) dL_law_1332 (by decide) rfl ?_
  refine a_aload_n 3 2 (μ := m_L_law) (pc := 1334) dL_law_1334 rfl rfl ?_
  refine l_arg (v := 1) 5 1 1335 dL_law_1335 dL_law_1336 dL_law_1338 dL_law_1339 dL_law_1340 rfl rfl (by decide) (hin 1 (by decide)) ?_
  refine l_arg (v := 2) 5 1 1341 dL_law_1341 dL_law_1342 dL_law_1344 dL_law_1345 dL_law_1346 rfl rfl (by decide) (hin 2 (by decide)) ?_
  refine l_arg (v := 3) 5 1 1347 dL_law_1347 dL_law_1348 dL_law_1350 dL_law_1351 dL_law_1352 rfl rfl (by decide) (hin 3 (by decide)) ?_
  refine a_callV (h := (g, δ1)) (rc' := rc) (rs' := rs) (As := [.int (sc D (i + 1)), .int (sc D (i + 2)), .int (sc D (i + 3))]) (rest := []) (μ := m_L_law) (pc := 1353) dL_law_1353 cv_L_177 rfl km (by decide) rfl (Nat.le_of_ble_eq_true rfl) (d' := d - 1) (by omega) (by omega) (by omega) (c_X12_bad (N := N) wt hl (d := d - 1) (by omega) km (b, δ2) h2 _ _ ?_)
  show AW _ _ _ _ _ _ _ _ _ (1353 + 3) _ [.int b] (g, δ2)
  refine a_istore ((6, .int b) :: (5, .int kk) :: lv0 D x m o i) (μ := m_L_law) (pc := 1356) dL_law_1356 (by decide) rfl ?_
  refine a_aload_n 4 2 (μ := m_L_law) (pc := 1358) dL_law_1358 rfl rfl ?_
  refine a_callV (h := (g, δ2)) (rc' := rc) (rs' := rs) (As := []) (rest := []) (μ := m_L_law) (pc := 1359) dL_law_1359 cv_L_122 rfl km (by decide) rfl (Nat.le_of_ble_eq_true rfl) (d' := d - 1) (by omega) (by omega) (by omega) (c_X12_thrown (N := N) wt hl (d := d - 1) (by omega) km (q_I δ2 12 0 m, δ2) rfl _ _ ?_)
  show AW _ _ _ _ _ _ _ _ _ (1359 + 3) _ [.int (q_I δ2 12 0 m)] (g, δ2)
  refine a_iload 1 (μ := m_L_law) (pc := 1362) dL_law_1362 rfl ?_
  refine a_icmp_eq 1369 (μ := m_L_law) (pc := 1364) dL_law_1364 (by decide) (fun _ => ?_) (fun z => absurd h3 z)
  refine a_iload 1 (μ := m_L_law) (pc := 1369) dL_law_1369 rfl ?_
  refine a_if_ne 1386 (μ := m_L_law) (pc := 1371) dL_law_1371 (by decide) (fun _ => ?_) (fun z => ?_)
  · refine a_goto 2457 (μ := m_L_law) (pc := 1386) dL_law_1386 (by decide) ?_
    exact a_lv [2, 3, 4, 5, 6] rfl K
  · refine a_aload_n 3 3 (μ := m_L_law) (pc := 1374) dL_law_1374 rfl rfl ?_
    refine a_iconst (v := 0) (μ := m_L_law) (pc := 1375) dL_law_1375 (by decide) ?_
    refine a_lald (μ := m_L_law) (pc := 1376) dL_law_1376 ko (vp_n (by rw [ho]; decide)) ?_
    rw [z_nat]
    refine a_iload 0 (μ := m_L_law) (pc := 1377) dL_law_1377 rfl ?_
    refine a_i2l (μ := m_L_law) (pc := 1379) dL_law_1379 ?_
    refine a_lcmp (μ := m_L_law) (pc := 1380) dL_law_1380 ?_
    rw [h4 z, lg_self]
    refine a_if_eq 1386 (μ := m_L_law) (pc := 1381) dL_law_1381 (by decide) (fun _ => ?_) (fun z => absurd rfl z)
    refine a_goto 2457 (μ := m_L_law) (pc := 1386) dL_law_1386 (by decide) ?_
    exact a_lv [2, 3, 4, 5, 6] rfl K
set_option maxHeartbeats 4000000 in
theorem lw_18 {l : Launch} {D : va_G} {cy : Nat → ClassId} {N d rc rs : Nat} {P : Option Value → hp → Prop} {X : String → hp → Prop} {g : gp} (wt : WT g) (hl : l.stackTraces = false) (hd : 91 ≤ d) {x m o : Nat} {i : Int32} {δ : dp} (kx : q_K g x = 11) (km : q_K g m = 12) (ko : q_K g o = 14) (ho : q_N g o = 1) (hin : ∀ v : Int32, v ∈ [1, 2, 3, 4, 5] → vp_in (i + v) (D.2 102 1)) {kk b : Int32} {δ1 δ2 : dp} (h1 : D_L_was N g x (sc D (i + 1)) (sc D (i + 2)) (sc D (i + 3)) o δ = some (kk, δ1)) (h2 : D_X12_was N g m (sc D (i + 1)) (sc D (i + 2)) (sc D (i + 3)) δ1 = some (b, δ2)) (h3 : q_I δ2 12 0 m = kk) (h4 : kk = 0 → q_J δ2 o 0 = b.toInt64) (K : AW l D cy m_L_law d rc rs P X 2457 (lv0 D x m o i) [] (g, δ2)) : AW l D cy m_L_law d (rc + 3) (rs + 18) P X 1389 (lv0 D x m o i) [] (g, δ) := by
  refine a_wk (rc' := rc + 3) (rs' := rs + 18) (by omega) (by omega) ?_
  refine a_aload_n 3 1 (μ := m_L_law) (pc := 1389) dL_law_1389 rfl rfl ?_
  refine l_arg (v := 1) 4 0 1390 dL_law_1390 dL_law_1391 dL_law_1393 dL_law_1394 dL_law_1395 rfl rfl (by decide) (hin 1 (by decide)) ?_
  refine l_arg (v := 2) 4 0 1396 dL_law_1396 dL_law_1397 dL_law_1399 dL_law_1400 dL_law_1401 rfl rfl (by decide) (hin 2 (by decide)) ?_
  refine l_arg (v := 3) 4 0 1402 dL_law_1402 dL_law_1403 dL_law_1405 dL_law_1406 dL_law_1407 rfl rfl (by decide) (hin 3 (by decide)) ?_
  refine a_aload_n 1 3 (μ := m_L_law) (pc := 1408) dL_law_1408 rfl rfl ?_
  refine a_callH (hh := hh_was) (h := (g, δ)) (rc' := rc) (rs' := rs) (mc' := 2) (ms' := 12) (As := [.ref x, .int (sc D (i + 1)), .int (sc D (i + 2)), .int (sc D (i + 3)), .ref o]) (rest := []) (μ := m_L_law) (pc := 1409) dL_law_1409 ch_178 rfl (Nat.le_of_ble_eq_true rfl) (d' := d - 1) (by omega) (by omega) (by omega) (c_L_was (N := N) wt hl (d := d - 1) (by omega) kx ko (kk, δ1) h1 ?_)
  show AW _ _ _ _ _ _ _ _ _ (1409 + 3) _ [.int kk] (g, δ1)
  refine a_istore ((5, .int kk) :: lv0 D x m o i) (μ := m_L_law) (pc := 1412) dL_law_1412 (by decide) rfl ?_
  refine a_aload_n 3 2 (μ := m_L_law) (pc := 1414) dL_law_1414 rfl rfl ?_
  refine l_arg (v := 1) 5 1 1415 dL_law_1415 dL_law_1416 dL_law_1418 dL_law_1419 dL_law_1420 rfl rfl (by decide) (hin 1 (by decide)) ?_
  refine l_arg (v := 2) 5 1 1421 dL_law_1421 dL_law_1422 dL_law_1424 dL_law_1425 dL_law_1426 rfl rfl (by decide) (hin 2 (by decide)) ?_
  refine l_arg (v := 3) 5 1 1427 dL_law_1427 dL_law_1428 dL_law_1430 dL_law_1431 dL_law_1432 rfl rfl (by decide) (hin 3 (by decide)) ?_
  refine a_callV (h := (g, δ1)) (rc' := rc) (rs' := rs) (As := [.int (sc D (i + 1)), .int (sc D (i + 2)), .int (sc D (i + 3))]) (rest := []) (μ := m_L_law) (pc := 1433) dL_law_1433 cv_L_180 rfl km (by decide) rfl (Nat.le_of_ble_eq_true rfl) (d' := d - 1) (by omega) (by omega) (by omega) (c_X12_was (N := N) wt hl (d := d - 1) (by omega) km (b, δ2) h2 _ _ ?_)
  show AW _ _ _ _ _ _ _ _ _ (1433 + 3) _ [.int b] (g, δ2)
  refine a_istore ((6, .int b) :: (5, .int kk) :: lv0 D x m o i) (μ := m_L_law) (pc := 1436) dL_law_1436 (by decide) rfl ?_
  refine a_aload_n 4 2 (μ := m_L_law) (pc := 1438) dL_law_1438 rfl rfl ?_
  refine a_callV (h := (g, δ2)) (rc' := rc) (rs' := rs) (As := []) (rest := []) (μ := m_L_law) (pc := 1439) dL_law_1439 cv_L_122 rfl km (by decide) rfl (Nat.le_of_ble_eq_true rfl) (d' := d - 1) (by omega) (by omega) (by omega) (c_X12_thrown (N := N) wt hl (d := d - 1) (by omega) km (q_I δ2 12 0 m, δ2) rfl _ _ ?_)
  show AW _ _ _ _ _ _ _ _ _ (1439 + 3) _ [.int (q_I δ2 12 0 m)] (g, δ2)
  refine a_iload 1 (μ := m_L_law) (pc := 1442) dL_law_1442 rfl ?_
  refine a_icmp_eq 1449 (μ := m_L_law) (pc := 1444) dL_law_1444 (by decide) (fun _ => ?_) (fun z => absurd h3 z)
  refine a_iload 1 (μ := m_L_law) (pc := 1449) dL_law_1449 rfl ?_
  refine a_if_ne 1466 (μ := m_L_law) (pc := 1451) dL_law_1451 (by decide) (fun _ => ?_) (fun z => ?_)
  · refine a_goto 2457 (μ := m_L_law) (pc := 1466) dL_law_1466 (by decide) ?_
    exact a_lv [2, 3, 4, 5, 6] rfl K
  · refine a_aload_n 3 3 (μ := m_L_law) (pc := 1454) dL_law_1454 rfl rfl ?_
    refine a_iconst (v := 0) (μ := m_L_law) (pc := 1455) dL_law_1455 (by decide) ?_
    refine a_lald (μ := m_L_law) (pc := 1456) dL_law_1456 ko (vp_n (by rw [ho]; decide)) ?_
    rw [z_nat]
    refine a_iload 0 (μ := m_L_law) (pc := 1457) dL_law_1457 rfl ?_
    refine a_i2l (μ := m_L_law) (pc := 1459) dL_law_1459 ?_
    refine a_lcmp (μ := m_L_law) (pc := 1460) dL_law_1460 ?_
    rw [h4 z, lg_self]
    refine a_if_eq 1466 (μ := m_L_law) (pc := 1461) dL_law_1461 (by decide) (fun _ => ?_) (fun z => absurd rfl z)
    refine a_goto 2457 (μ := m_L_law) (pc := 1466) dL_law_1466 (by decide) ?_
    exact a_lv [2, 3, 4, 5, 6] rfl K
set_option maxHeartbeats 4000000 in
theorem lw_19 {l : Launch} {D : va_G} {cy : Nat → ClassId} {N d rc rs : Nat} {P : Option Value → hp → Prop} {X : String → hp → Prop} {g : gp} (wt : WT g) (hl : l.stackTraces = false) (hd : 91 ≤ d) {x m o : Nat} {i : Int32} {δ : dp} (kx : q_K g x = 11) (km : q_K g m = 12) (ko : q_K g o = 14) (ho : q_N g o = 1) (hin : ∀ v : Int32, v ∈ [1, 2, 3, 4, 5] → vp_in (i + v) (D.2 102 1)) {kk b : Int32} {δ1 δ2 : dp} (h1 : D_L_asked N g x (sc D (i + 1)) (sc D (i + 2)) (sc D (i + 3)) (sc D (i + 4)) o δ = some (kk, δ1)) (h2 : D_X12_asked N g m (sc D (i + 1)) (sc D (i + 2)) (sc D (i + 3)) (sc D (i + 4)) δ1 = some (b, δ2)) (h3 : q_I δ2 12 0 m = kk) (h4 : kk = 0 → q_J δ2 o 0 = b.toInt64) (K : AW l D cy m_L_law d rc rs P X 2457 (lv0 D x m o i) [] (g, δ2)) : AW l D cy m_L_law d (rc + 3) (rs + 18) P X 1469 (lv0 D x m o i) [] (g, δ) := by
  refine a_wk (rc' := rc + 3) (rs' := rs + 18) (by omega) (by omega) ?_
  refine a_aload_n 3 1 (μ := m_L_law) (pc := 1469) dL_law_1469 rfl rfl ?_
  refine l_arg (v := 1) 4 0 1470 dL_law_1470 dL_law_1471 dL_law_1473 dL_law_1474 dL_law_1475 rfl rfl (by decide) (hin 1 (by decide)) ?_
  refine l_arg (v := 2) 4 0 1476 dL_law_1476 dL_law_1477 dL_law_1479 dL_law_1480 dL_law_1481 rfl rfl (by decide) (hin 2 (by decide)) ?_
  refine l_arg (v := 3) 4 0 1482 dL_law_1482 dL_law_1483 dL_law_1485 dL_law_1486 dL_law_1487 rfl rfl (by decide) (hin 3 (by decide)) ?_
  refine l_arg (v := 4) 4 0 1488 dL_law_1488 dL_law_1489 dL_law_1491 dL_law_1492 dL_law_1493 rfl rfl (by decide) (hin 4 (by decide)) ?_
  refine a_aload_n 1 3 (μ := m_L_law) (pc := 1494) dL_law_1494 rfl rfl ?_
  refine a_callH (hh := hh_asked) (h := (g, δ)) (rc' := rc) (rs' := rs) (mc' := 2) (ms' := 12) (As := [.ref x, .int (sc D (i + 1)), .int (sc D (i + 2)), .int (sc D (i + 3)), .int (sc D (i + 4)), .ref o]) (rest := []) (μ := m_L_law) (pc := 1495) dL_law_1495 ch_181 rfl (Nat.le_of_ble_eq_true rfl) (d' := d - 1) (by omega) (by omega) (by omega) (c_L_asked (N := N) wt hl (d := d - 1) (by omega) kx ko (kk, δ1) h1 ?_)
  show AW _ _ _ _ _ _ _ _ _ (1495 + 3) _ [.int kk] (g, δ1)
  refine a_istore ((5, .int kk) :: lv0 D x m o i) (μ := m_L_law) (pc := 1498) dL_law_1498 (by decide) rfl ?_
  refine a_aload_n 3 2 (μ := m_L_law) (pc := 1500) dL_law_1500 rfl rfl ?_
  refine l_arg (v := 1) 5 1 1501 dL_law_1501 dL_law_1502 dL_law_1504 dL_law_1505 dL_law_1506 rfl rfl (by decide) (hin 1 (by decide)) ?_
  refine l_arg (v := 2) 5 1 1507 dL_law_1507 dL_law_1508 dL_law_1510 dL_law_1511 dL_law_1512 rfl rfl (by decide) (hin 2 (by decide)) ?_
  refine l_arg (v := 3) 5 1 1513 dL_law_1513 dL_law_1514 dL_law_1516 dL_law_1517 dL_law_1518 rfl rfl (by decide) (hin 3 (by decide)) ?_
  refine l_arg (v := 4) 5 1 1519 dL_law_1519 dL_law_1520 dL_law_1522 dL_law_1523 dL_law_1524 rfl rfl (by decide) (hin 4 (by decide)) ?_
  refine a_callV (h := (g, δ1)) (rc' := rc) (rs' := rs) (As := [.int (sc D (i + 1)), .int (sc D (i + 2)), .int (sc D (i + 3)), .int (sc D (i + 4))]) (rest := []) (μ := m_L_law) (pc := 1525) dL_law_1525 cv_L_183 rfl km (by decide) rfl (Nat.le_of_ble_eq_true rfl) (d' := d - 1) (by omega) (by omega) (by omega) (c_X12_asked (N := N) wt hl (d := d - 1) (by omega) km (b, δ2) h2 _ _ ?_)
  show AW _ _ _ _ _ _ _ _ _ (1525 + 3) _ [.int b] (g, δ2)
  refine a_istore ((6, .int b) :: (5, .int kk) :: lv0 D x m o i) (μ := m_L_law) (pc := 1528) dL_law_1528 (by decide) rfl ?_
  refine a_aload_n 4 2 (μ := m_L_law) (pc := 1530) dL_law_1530 rfl rfl ?_
  refine a_callV (h := (g, δ2)) (rc' := rc) (rs' := rs) (As := []) (rest := []) (μ := m_L_law) (pc := 1531) dL_law_1531 cv_L_122 rfl km (by decide) rfl (Nat.le_of_ble_eq_true rfl) (d' := d - 1) (by omega) (by omega) (by omega) (c_X12_thrown (N := N) wt hl (d := d - 1) (by omega) km (q_I δ2 12 0 m, δ2) rfl _ _ ?_)
  show AW _ _ _ _ _ _ _ _ _ (1531 + 3) _ [.int (q_I δ2 12 0 m)] (g, δ2)
  refine a_iload 1 (μ := m_L_law) (pc := 1534) dL_law_1534 rfl ?_
  refine a_icmp_eq 1541 (μ := m_L_law) (pc := 1536) dL_law_1536 (by decide) (fun _ => ?_) (fun z => absurd h3 z)
  refine a_iload 1 (μ := m_L_law) (pc := 1541) dL_law_1541 rfl ?_
  refine a_if_ne 1558 (μ := m_L_law) (pc := 1543) dL_law_1543 (by decide) (fun _ => ?_) (fun z => ?_)
  · refine a_goto 2457 (μ := m_L_law) (pc := 1558) dL_law_1558 (by decide) ?_
    exact a_lv [2, 3, 4, 5, 6] rfl K
  · refine a_aload_n 3 3 (μ := m_L_law) (pc := 1546) dL_law_1546 rfl rfl ?_
    refine a_iconst (v := 0) (μ := m_L_law) (pc := 1547) dL_law_1547 (by decide) ?_
    refine a_lald (μ := m_L_law) (pc := 1548) dL_law_1548 ko (vp_n (by rw [ho]; decide)) ?_
    rw [z_nat]
    refine a_iload 0 (μ := m_L_law) (pc := 1549) dL_law_1549 rfl ?_
    refine a_i2l (μ := m_L_law) (pc := 1551) dL_law_1551 ?_
    refine a_lcmp (μ := m_L_law) (pc := 1552) dL_law_1552 ?_
    rw [h4 z, lg_self]
    refine a_if_eq 1558 (μ := m_L_law) (pc := 1553) dL_law_1553 (by decide) (fun _ => ?_) (fun z => absurd rfl z)
    refine a_goto 2457 (μ := m_L_law) (pc := 1558) dL_law_1558 (by decide) ?_
    exact a_lv [2, 3, 4, 5, 6] rfl K
set_option maxHeartbeats 4000000 in
theorem lw_20 {l : Launch} {D : va_G} {cy : Nat → ClassId} {N d rc rs : Nat} {P : Option Value → hp → Prop} {X : String → hp → Prop} {g : gp} (wt : WT g) (hl : l.stackTraces = false) (hd : 91 ≤ d) {x m o : Nat} {i : Int32} {δ : dp} (kx : q_K g x = 11) (km : q_K g m = 12) (ko : q_K g o = 14) (ho : q_N g o = 1) (hin : ∀ v : Int32, v ∈ [1, 2, 3, 4, 5] → vp_in (i + v) (D.2 102 1)) {kk b : Int32} {δ1 δ2 : dp} (h1 : D_L_since N g x (sc D (i + 1)) (sc D (i + 2)) (sc D (i + 3)) o δ = some (kk, δ1)) (h2 : D_X12_since N g m (sc D (i + 1)) (sc D (i + 2)) (sc D (i + 3)) δ1 = some (b, δ2)) (h3 : q_I δ2 12 0 m = kk) (h4 : kk = 0 → q_J δ2 o 0 = b.toInt64) (K : AW l D cy m_L_law d rc rs P X 2457 (lv0 D x m o i) [] (g, δ2)) : AW l D cy m_L_law d (rc + 3) (rs + 18) P X 1561 (lv0 D x m o i) [] (g, δ) := by
  refine a_wk (rc' := rc + 3) (rs' := rs + 18) (by omega) (by omega) ?_
  refine a_aload_n 3 1 (μ := m_L_law) (pc := 1561) dL_law_1561 rfl rfl ?_
  refine l_arg (v := 1) 4 0 1562 dL_law_1562 dL_law_1563 dL_law_1565 dL_law_1566 dL_law_1567 rfl rfl (by decide) (hin 1 (by decide)) ?_
  refine l_arg (v := 2) 4 0 1568 dL_law_1568 dL_law_1569 dL_law_1571 dL_law_1572 dL_law_1573 rfl rfl (by decide) (hin 2 (by decide)) ?_
  refine l_arg (v := 3) 4 0 1574 dL_law_1574 dL_law_1575 dL_law_1577 dL_law_1578 dL_law_1579 rfl rfl (by decide) (hin 3 (by decide)) ?_
  refine a_aload_n 1 3 (μ := m_L_law) (pc := 1580) dL_law_1580 rfl rfl ?_
  refine a_callH (hh := hh_since) (h := (g, δ)) (rc' := rc) (rs' := rs) (mc' := 2) (ms' := 12) (As := [.ref x, .int (sc D (i + 1)), .int (sc D (i + 2)), .int (sc D (i + 3)), .ref o]) (rest := []) (μ := m_L_law) (pc := 1581) dL_law_1581 ch_184 rfl (Nat.le_of_ble_eq_true rfl) (d' := d - 1) (by omega) (by omega) (by omega) (c_L_since (N := N) wt hl (d := d - 1) (by omega) kx ko (kk, δ1) h1 ?_)
  show AW _ _ _ _ _ _ _ _ _ (1581 + 3) _ [.int kk] (g, δ1)
  refine a_istore ((5, .int kk) :: lv0 D x m o i) (μ := m_L_law) (pc := 1584) dL_law_1584 (by decide) rfl ?_
  refine a_aload_n 3 2 (μ := m_L_law) (pc := 1586) dL_law_1586 rfl rfl ?_
  refine l_arg (v := 1) 5 1 1587 dL_law_1587 dL_law_1588 dL_law_1590 dL_law_1591 dL_law_1592 rfl rfl (by decide) (hin 1 (by decide)) ?_
  refine l_arg (v := 2) 5 1 1593 dL_law_1593 dL_law_1594 dL_law_1596 dL_law_1597 dL_law_1598 rfl rfl (by decide) (hin 2 (by decide)) ?_
  refine l_arg (v := 3) 5 1 1599 dL_law_1599 dL_law_1600 dL_law_1602 dL_law_1603 dL_law_1604 rfl rfl (by decide) (hin 3 (by decide)) ?_
  refine a_callV (h := (g, δ1)) (rc' := rc) (rs' := rs) (As := [.int (sc D (i + 1)), .int (sc D (i + 2)), .int (sc D (i + 3))]) (rest := []) (μ := m_L_law) (pc := 1605) dL_law_1605 cv_L_186 rfl km (by decide) rfl (Nat.le_of_ble_eq_true rfl) (d' := d - 1) (by omega) (by omega) (by omega) (c_X12_since (N := N) wt hl (d := d - 1) (by omega) km (b, δ2) h2 _ _ ?_)
  show AW _ _ _ _ _ _ _ _ _ (1605 + 3) _ [.int b] (g, δ2)
  refine a_istore ((6, .int b) :: (5, .int kk) :: lv0 D x m o i) (μ := m_L_law) (pc := 1608) dL_law_1608 (by decide) rfl ?_
  refine a_aload_n 4 2 (μ := m_L_law) (pc := 1610) dL_law_1610 rfl rfl ?_
  refine a_callV (h := (g, δ2)) (rc' := rc) (rs' := rs) (As := []) (rest := []) (μ := m_L_law) (pc := 1611) dL_law_1611 cv_L_122 rfl km (by decide) rfl (Nat.le_of_ble_eq_true rfl) (d' := d - 1) (by omega) (by omega) (by omega) (c_X12_thrown (N := N) wt hl (d := d - 1) (by omega) km (q_I δ2 12 0 m, δ2) rfl _ _ ?_)
  show AW _ _ _ _ _ _ _ _ _ (1611 + 3) _ [.int (q_I δ2 12 0 m)] (g, δ2)
  refine a_iload 1 (μ := m_L_law) (pc := 1614) dL_law_1614 rfl ?_
  refine a_icmp_eq 1621 (μ := m_L_law) (pc := 1616) dL_law_1616 (by decide) (fun _ => ?_) (fun z => absurd h3 z)
  refine a_iload 1 (μ := m_L_law) (pc := 1621) dL_law_1621 rfl ?_
  refine a_if_ne 1638 (μ := m_L_law) (pc := 1623) dL_law_1623 (by decide) (fun _ => ?_) (fun z => ?_)
  · refine a_goto 2457 (μ := m_L_law) (pc := 1638) dL_law_1638 (by decide) ?_
    exact a_lv [2, 3, 4, 5, 6] rfl K
  · refine a_aload_n 3 3 (μ := m_L_law) (pc := 1626) dL_law_1626 rfl rfl ?_
    refine a_iconst (v := 0) (μ := m_L_law) (pc := 1627) dL_law_1627 (by decide) ?_
    refine a_lald (μ := m_L_law) (pc := 1628) dL_law_1628 ko (vp_n (by rw [ho]; decide)) ?_
    rw [z_nat]
    refine a_iload 0 (μ := m_L_law) (pc := 1629) dL_law_1629 rfl ?_
    refine a_i2l (μ := m_L_law) (pc := 1631) dL_law_1631 ?_
    refine a_lcmp (μ := m_L_law) (pc := 1632) dL_law_1632 ?_
    rw [h4 z, lg_self]
    refine a_if_eq 1638 (μ := m_L_law) (pc := 1633) dL_law_1633 (by decide) (fun _ => ?_) (fun z => absurd rfl z)
    refine a_goto 2457 (μ := m_L_law) (pc := 1638) dL_law_1638 (by decide) ?_
    exact a_lv [2, 3, 4, 5, 6] rfl K
set_option maxHeartbeats 4000000 in
theorem lw_21 {l : Launch} {D : va_G} {cy : Nat → ClassId} {N d rc rs : Nat} {P : Option Value → hp → Prop} {X : String → hp → Prop} {g : gp} (wt : WT g) (hl : l.stackTraces = false) (hd : 91 ≤ d) {x m o : Nat} {i : Int32} {δ : dp} (kx : q_K g x = 11) (km : q_K g m = 12) (ko : q_K g o = 14) (ho : q_N g o = 1) (hin : ∀ v : Int32, v ∈ [1, 2, 3, 4, 5] → vp_in (i + v) (D.2 102 1)) {kk b : Int32} {δ1 δ2 : dp} (h1 : D_L_room N g x (sc D (i + 1)) (sc D (i + 2)) o δ = some (kk, δ1)) (h2 : D_X12_room N g m (sc D (i + 1)) (sc D (i + 2)) δ1 = some (b, δ2)) (h3 : q_I δ2 12 0 m = kk) (h4 : kk = 0 → q_J δ2 o 0 = b.toInt64) (K : AW l D cy m_L_law d rc rs P X 2457 (lv0 D x m o i) [] (g, δ2)) : AW l D cy m_L_law d (rc + 3) (rs + 18) P X 1641 (lv0 D x m o i) [] (g, δ) := by
  refine a_wk (rc' := rc + 3) (rs' := rs + 18) (by omega) (by omega) ?_
  refine a_aload_n 3 1 (μ := m_L_law) (pc := 1641) dL_law_1641 rfl rfl ?_
  refine l_arg (v := 1) 4 0 1642 dL_law_1642 dL_law_1643 dL_law_1645 dL_law_1646 dL_law_1647 rfl rfl (by decide) (hin 1 (by decide)) ?_
  refine l_arg (v := 2) 4 0 1648 dL_law_1648 dL_law_1649 dL_law_1651 dL_law_1652 dL_law_1653 rfl rfl (by decide) (hin 2 (by decide)) ?_
  refine a_aload_n 1 3 (μ := m_L_law) (pc := 1654) dL_law_1654 rfl rfl ?_
  refine a_callH (hh := hh_room) (h := (g, δ)) (rc' := rc) (rs' := rs) (mc' := 2) (ms' := 12) (As := [.ref x, .int (sc D (i + 1)), .int (sc D (i + 2)), .ref o]) (rest := []) (μ := m_L_law) (pc := 1655) dL_law_1655 ch_187 rfl (Nat.le_of_ble_eq_true rfl) (d' := d - 1) (by omega) (by omega) (by omega) (c_L_room (N := N) wt hl (d := d - 1) (by omega) kx ko (kk, δ1) h1 ?_)
  show AW _ _ _ _ _ _ _ _ _ (1655 + 3) _ [.int kk] (g, δ1)
  refine a_istore ((5, .int kk) :: lv0 D x m o i) (μ := m_L_law) (pc := 1658) dL_law_1658 (by decide) rfl ?_
  refine a_aload_n 3 2 (μ := m_L_law) (pc := 1660) dL_law_1660 rfl rfl ?_
  refine l_arg (v := 1) 5 1 1661 dL_law_1661 dL_law_1662 dL_law_1664 dL_law_1665 dL_law_1666 rfl rfl (by decide) (hin 1 (by decide)) ?_
  refine l_arg (v := 2) 5 1 1667 dL_law_1667 dL_law_1668 dL_law_1670 dL_law_1671 dL_law_1672 rfl rfl (by decide) (hin 2 (by decide)) ?_
  refine a_callV (h := (g, δ1)) (rc' := rc) (rs' := rs) (As := [.int (sc D (i + 1)), .int (sc D (i + 2))]) (rest := []) (μ := m_L_law) (pc := 1673) dL_law_1673 cv_L_189 rfl km (by decide) rfl (Nat.le_of_ble_eq_true rfl) (d' := d - 1) (by omega) (by omega) (by omega) (c_X12_room (N := N) wt hl (d := d - 1) (by omega) km (b, δ2) h2 _ _ ?_)
  show AW _ _ _ _ _ _ _ _ _ (1673 + 3) _ [.int b] (g, δ2)
  refine a_istore ((6, .int b) :: (5, .int kk) :: lv0 D x m o i) (μ := m_L_law) (pc := 1676) dL_law_1676 (by decide) rfl ?_
  refine a_aload_n 4 2 (μ := m_L_law) (pc := 1678) dL_law_1678 rfl rfl ?_
  refine a_callV (h := (g, δ2)) (rc' := rc) (rs' := rs) (As := []) (rest := []) (μ := m_L_law) (pc := 1679) dL_law_1679 cv_L_122 rfl km (by decide) rfl (Nat.le_of_ble_eq_true rfl) (d' := d - 1) (by omega) (by omega) (by omega) (c_X12_thrown (N := N) wt hl (d := d - 1) (by omega) km (q_I δ2 12 0 m, δ2) rfl _ _ ?_)
  show AW _ _ _ _ _ _ _ _ _ (1679 + 3) _ [.int (q_I δ2 12 0 m)] (g, δ2)
  refine a_iload 1 (μ := m_L_law) (pc := 1682) dL_law_1682 rfl ?_
  refine a_icmp_eq 1689 (μ := m_L_law) (pc := 1684) dL_law_1684 (by decide) (fun _ => ?_) (fun z => absurd h3 z)
  refine a_iload 1 (μ := m_L_law) (pc := 1689) dL_law_1689 rfl ?_
  refine a_if_ne 1706 (μ := m_L_law) (pc := 1691) dL_law_1691 (by decide) (fun _ => ?_) (fun z => ?_)
  · refine a_goto 2457 (μ := m_L_law) (pc := 1706) dL_law_1706 (by decide) ?_
    exact a_lv [2, 3, 4, 5, 6] rfl K
  · refine a_aload_n 3 3 (μ := m_L_law) (pc := 1694) dL_law_1694 rfl rfl ?_
    refine a_iconst (v := 0) (μ := m_L_law) (pc := 1695) dL_law_1695 (by decide) ?_
    refine a_lald (μ := m_L_law) (pc := 1696) dL_law_1696 ko (vp_n (by rw [ho]; decide)) ?_
    rw [z_nat]
    refine a_iload 0 (μ := m_L_law) (pc := 1697) dL_law_1697 rfl ?_
    refine a_i2l (μ := m_L_law) (pc := 1699) dL_law_1699 ?_
    refine a_lcmp (μ := m_L_law) (pc := 1700) dL_law_1700 ?_
    rw [h4 z, lg_self]
    refine a_if_eq 1706 (μ := m_L_law) (pc := 1701) dL_law_1701 (by decide) (fun _ => ?_) (fun z => absurd rfl z)
    refine a_goto 2457 (μ := m_L_law) (pc := 1706) dL_law_1706 (by decide) ?_
    exact a_lv [2, 3, 4, 5, 6] rfl K
set_option maxHeartbeats 4000000 in
theorem lw_22 {l : Launch} {D : va_G} {cy : Nat → ClassId} {N d rc rs : Nat} {P : Option Value → hp → Prop} {X : String → hp → Prop} {g : gp} (wt : WT g) (hl : l.stackTraces = false) (hd : 91 ≤ d) {x m o : Nat} {i : Int32} {δ : dp} (kx : q_K g x = 11) (km : q_K g m = 12) (ko : q_K g o = 14) (ho : q_N g o = 1) (hin : ∀ v : Int32, v ∈ [1, 2, 3, 4, 5] → vp_in (i + v) (D.2 102 1)) {kk b : Int32} {δ1 δ2 : dp} (h1 : D_L_joins N g x (sc D (i + 1)) (sc D (i + 2)) (sc D (i + 3)) o δ = some (kk, δ1)) (h2 : D_X12_joins N g m (sc D (i + 1)) (sc D (i + 2)) (sc D (i + 3)) δ1 = some (b, δ2)) (h3 : q_I δ2 12 0 m = kk) (h4 : kk = 0 → q_J δ2 o 0 = b.toInt64) (K : AW l D cy m_L_law d rc rs P X 2457 (lv0 D x m o i) [] (g, δ2)) : AW l D cy m_L_law d (rc + 3) (rs + 18) P X 1709 (lv0 D x m o i) [] (g, δ) := by
  refine a_wk (rc' := rc + 3) (rs' := rs + 18) (by omega) (by omega) ?_
  refine a_aload_n 3 1 (μ := m_L_law) (pc := 1709) dL_law_1709 rfl rfl ?_
  refine l_arg (v := 1) 4 0 1710 dL_law_1710 dL_law_1711 dL_law_1713 dL_law_1714 dL_law_1715 rfl rfl (by decide) (hin 1 (by decide)) ?_
  refine l_arg (v := 2) 4 0 1716 dL_law_1716 dL_law_1717 dL_law_1719 dL_law_1720 dL_law_1721 rfl rfl (by decide) (hin 2 (by decide)) ?_
  refine l_arg (v := 3) 4 0 1722 dL_law_1722 dL_law_1723 dL_law_1725 dL_law_1726 dL_law_1727 rfl rfl (by decide) (hin 3 (by decide)) ?_
  refine a_aload_n 1 3 (μ := m_L_law) (pc := 1728) dL_law_1728 rfl rfl ?_
  refine a_callH (hh := hh_joins) (h := (g, δ)) (rc' := rc) (rs' := rs) (mc' := 3) (ms' := 18) (As := [.ref x, .int (sc D (i + 1)), .int (sc D (i + 2)), .int (sc D (i + 3)), .ref o]) (rest := []) (μ := m_L_law) (pc := 1729) dL_law_1729 ch_190 rfl (Nat.le_of_ble_eq_true rfl) (d' := d - 1) (by omega) (by omega) (by omega) (c_L_joins (N := N) wt hl (d := d - 1) (by omega) kx ko (kk, δ1) h1 ?_)
  show AW _ _ _ _ _ _ _ _ _ (1729 + 3) _ [.int kk] (g, δ1)
  refine a_istore ((5, .int kk) :: lv0 D x m o i) (μ := m_L_law) (pc := 1732) dL_law_1732 (by decide) rfl ?_
  refine a_aload_n 3 2 (μ := m_L_law) (pc := 1734) dL_law_1734 rfl rfl ?_
  refine l_arg (v := 1) 5 1 1735 dL_law_1735 dL_law_1736 dL_law_1738 dL_law_1739 dL_law_1740 rfl rfl (by decide) (hin 1 (by decide)) ?_
  refine l_arg (v := 2) 5 1 1741 dL_law_1741 dL_law_1742 dL_law_1744 dL_law_1745 dL_law_1746 rfl rfl (by decide) (hin 2 (by decide)) ?_
  refine l_arg (v := 3) 5 1 1747 dL_law_1747 dL_law_1748 dL_law_1750 dL_law_1751 dL_law_1752 rfl rfl (by decide) (hin 3 (by decide)) ?_
  refine a_callV (h := (g, δ1)) (rc' := rc) (rs' := rs) (As := [.int (sc D (i + 1)), .int (sc D (i + 2)), .int (sc D (i + 3))]) (rest := []) (μ := m_L_law) (pc := 1753) dL_law_1753 cv_L_192 rfl km (by decide) rfl (Nat.le_of_ble_eq_true rfl) (d' := d - 1) (by omega) (by omega) (by omega) (c_X12_joins (N := N) wt hl (d := d - 1) (by omega) km (b, δ2) h2 _ _ ?_)
  show AW _ _ _ _ _ _ _ _ _ (1753 + 3) _ [.int b] (g, δ2)
  refine a_istore ((6, .int b) :: (5, .int kk) :: lv0 D x m o i) (μ := m_L_law) (pc := 1756) dL_law_1756 (by decide) rfl ?_
  refine a_aload_n 4 2 (μ := m_L_law) (pc := 1758) dL_law_1758 rfl rfl ?_
  refine a_callV (h := (g, δ2)) (rc' := rc) (rs' := rs) (As := []) (rest := []) (μ := m_L_law) (pc := 1759) dL_law_1759 cv_L_122 rfl km (by decide) rfl (Nat.le_of_ble_eq_true rfl) (d' := d - 1) (by omega) (by omega) (by omega) (c_X12_thrown (N := N) wt hl (d := d - 1) (by omega) km (q_I δ2 12 0 m, δ2) rfl _ _ ?_)
  show AW _ _ _ _ _ _ _ _ _ (1759 + 3) _ [.int (q_I δ2 12 0 m)] (g, δ2)
  refine a_iload 1 (μ := m_L_law) (pc := 1762) dL_law_1762 rfl ?_
  refine a_icmp_eq 1769 (μ := m_L_law) (pc := 1764) dL_law_1764 (by decide) (fun _ => ?_) (fun z => absurd h3 z)
  refine a_iload 1 (μ := m_L_law) (pc := 1769) dL_law_1769 rfl ?_
  refine a_if_ne 1786 (μ := m_L_law) (pc := 1771) dL_law_1771 (by decide) (fun _ => ?_) (fun z => ?_)
  · refine a_goto 2457 (μ := m_L_law) (pc := 1786) dL_law_1786 (by decide) ?_
    exact a_lv [2, 3, 4, 5, 6] rfl K
  · refine a_aload_n 3 3 (μ := m_L_law) (pc := 1774) dL_law_1774 rfl rfl ?_
    refine a_iconst (v := 0) (μ := m_L_law) (pc := 1775) dL_law_1775 (by decide) ?_
    refine a_lald (μ := m_L_law) (pc := 1776) dL_law_1776 ko (vp_n (by rw [ho]; decide)) ?_
    rw [z_nat]
    refine a_iload 0 (μ := m_L_law) (pc := 1777) dL_law_1777 rfl ?_
    refine a_i2l (μ := m_L_law) (pc := 1779) dL_law_1779 ?_
    refine a_lcmp (μ := m_L_law) (pc := 1780) dL_law_1780 ?_
    rw [h4 z, lg_self]
    refine a_if_eq 1786 (μ := m_L_law) (pc := 1781) dL_law_1781 (by decide) (fun _ => ?_) (fun z => absurd rfl z)
    refine a_goto 2457 (μ := m_L_law) (pc := 1786) dL_law_1786 (by decide) ?_
    exact a_lv [2, 3, 4, 5, 6] rfl K
set_option maxHeartbeats 4000000 in
theorem lw_23 {l : Launch} {D : va_G} {cy : Nat → ClassId} {N d rc rs : Nat} {P : Option Value → hp → Prop} {X : String → hp → Prop} {g : gp} (wt : WT g) (hl : l.stackTraces = false) (hd : 91 ≤ d) {x m o : Nat} {i : Int32} {δ : dp} (kx : q_K g x = 11) (km : q_K g m = 12) (ko : q_K g o = 14) (ho : q_N g o = 1) (hin : ∀ v : Int32, v ∈ [1, 2, 3, 4, 5] → vp_in (i + v) (D.2 102 1)) {kk b : Int32} {δ1 δ2 : dp} (h1 : D_L_runs N g x (sc D (i + 1)) (sc D (i + 2)) o δ = some (kk, δ1)) (h2 : D_X12_runs N g m (sc D (i + 1)) (sc D (i + 2)) δ1 = some (b, δ2)) (h3 : q_I δ2 12 0 m = kk) (h4 : kk = 0 → q_J δ2 o 0 = b.toInt64) (K : AW l D cy m_L_law d rc rs P X 2457 (lv0 D x m o i) [] (g, δ2)) : AW l D cy m_L_law d (rc + 3) (rs + 18) P X 1789 (lv0 D x m o i) [] (g, δ) := by
  refine a_wk (rc' := rc + 3) (rs' := rs + 18) (by omega) (by omega) ?_
  refine a_aload_n 3 1 (μ := m_L_law) (pc := 1789) dL_law_1789 rfl rfl ?_
  refine l_arg (v := 1) 4 0 1790 dL_law_1790 dL_law_1791 dL_law_1793 dL_law_1794 dL_law_1795 rfl rfl (by decide) (hin 1 (by decide)) ?_
  refine l_arg (v := 2) 4 0 1796 dL_law_1796 dL_law_1797 dL_law_1799 dL_law_1800 dL_law_1801 rfl rfl (by decide) (hin 2 (by decide)) ?_
  refine a_aload_n 1 3 (μ := m_L_law) (pc := 1802) dL_law_1802 rfl rfl ?_
  refine a_callH (hh := hh_runs) (h := (g, δ)) (rc' := rc) (rs' := rs) (mc' := 2) (ms' := 12) (As := [.ref x, .int (sc D (i + 1)), .int (sc D (i + 2)), .ref o]) (rest := []) (μ := m_L_law) (pc := 1803) dL_law_1803 ch_193 rfl (Nat.le_of_ble_eq_true rfl) (d' := d - 1) (by omega) (by omega) (by omega) (c_L_runs (N := N) wt hl (d := d - 1) (by omega) kx ko (kk, δ1) h1 ?_)
  show AW _ _ _ _ _ _ _ _ _ (1803 + 3) _ [.int kk] (g, δ1)
  refine a_istore ((5, .int kk) :: lv0 D x m o i) (μ := m_L_law) (pc := 1806) dL_law_1806 (by decide) rfl ?_
  refine a_aload_n 3 2 (μ := m_L_law) (pc := 1808) dL_law_1808 rfl rfl ?_
  refine l_arg (v := 1) 5 1 1809 dL_law_1809 dL_law_1810 dL_law_1812 dL_law_1813 dL_law_1814 rfl rfl (by decide) (hin 1 (by decide)) ?_
  refine l_arg (v := 2) 5 1 1815 dL_law_1815 dL_law_1816 dL_law_1818 dL_law_1819 dL_law_1820 rfl rfl (by decide) (hin 2 (by decide)) ?_
  refine a_callV (h := (g, δ1)) (rc' := rc) (rs' := rs) (As := [.int (sc D (i + 1)), .int (sc D (i + 2))]) (rest := []) (μ := m_L_law) (pc := 1821) dL_law_1821 cv_L_195 rfl km (by decide) rfl (Nat.le_of_ble_eq_true rfl) (d' := d - 1) (by omega) (by omega) (by omega) (c_X12_runs (N := N) wt hl (d := d - 1) (by omega) km (b, δ2) h2 _ _ ?_)
  show AW _ _ _ _ _ _ _ _ _ (1821 + 3) _ [.int b] (g, δ2)
  refine a_istore ((6, .int b) :: (5, .int kk) :: lv0 D x m o i) (μ := m_L_law) (pc := 1824) dL_law_1824 (by decide) rfl ?_
  refine a_aload_n 4 2 (μ := m_L_law) (pc := 1826) dL_law_1826 rfl rfl ?_
  refine a_callV (h := (g, δ2)) (rc' := rc) (rs' := rs) (As := []) (rest := []) (μ := m_L_law) (pc := 1827) dL_law_1827 cv_L_122 rfl km (by decide) rfl (Nat.le_of_ble_eq_true rfl) (d' := d - 1) (by omega) (by omega) (by omega) (c_X12_thrown (N := N) wt hl (d := d - 1) (by omega) km (q_I δ2 12 0 m, δ2) rfl _ _ ?_)
  show AW _ _ _ _ _ _ _ _ _ (1827 + 3) _ [.int (q_I δ2 12 0 m)] (g, δ2)
  refine a_iload 1 (μ := m_L_law) (pc := 1830) dL_law_1830 rfl ?_
  refine a_icmp_eq 1837 (μ := m_L_law) (pc := 1832) dL_law_1832 (by decide) (fun _ => ?_) (fun z => absurd h3 z)
  refine a_iload 1 (μ := m_L_law) (pc := 1837) dL_law_1837 rfl ?_
  refine a_if_ne 1854 (μ := m_L_law) (pc := 1839) dL_law_1839 (by decide) (fun _ => ?_) (fun z => ?_)
  · refine a_goto 2457 (μ := m_L_law) (pc := 1854) dL_law_1854 (by decide) ?_
    exact a_lv [2, 3, 4, 5, 6] rfl K
  · refine a_aload_n 3 3 (μ := m_L_law) (pc := 1842) dL_law_1842 rfl rfl ?_
    refine a_iconst (v := 0) (μ := m_L_law) (pc := 1843) dL_law_1843 (by decide) ?_
    refine a_lald (μ := m_L_law) (pc := 1844) dL_law_1844 ko (vp_n (by rw [ho]; decide)) ?_
    rw [z_nat]
    refine a_iload 0 (μ := m_L_law) (pc := 1845) dL_law_1845 rfl ?_
    refine a_i2l (μ := m_L_law) (pc := 1847) dL_law_1847 ?_
    refine a_lcmp (μ := m_L_law) (pc := 1848) dL_law_1848 ?_
    rw [h4 z, lg_self]
    refine a_if_eq 1854 (μ := m_L_law) (pc := 1849) dL_law_1849 (by decide) (fun _ => ?_) (fun z => absurd rfl z)
    refine a_goto 2457 (μ := m_L_law) (pc := 1854) dL_law_1854 (by decide) ?_
    exact a_lv [2, 3, 4, 5, 6] rfl K
set_option maxHeartbeats 4000000 in
theorem lw_24 {l : Launch} {D : va_G} {cy : Nat → ClassId} {N d rc rs : Nat} {P : Option Value → hp → Prop} {X : String → hp → Prop} {g : gp} (wt : WT g) (hl : l.stackTraces = false) (hd : 91 ≤ d) {x m o : Nat} {i : Int32} {δ : dp} (kx : q_K g x = 11) (km : q_K g m = 12) (ko : q_K g o = 14) (ho : q_N g o = 1) (hin : ∀ v : Int32, v ∈ [1, 2, 3, 4, 5] → vp_in (i + v) (D.2 102 1)) {kk b : Int32} {δ1 δ2 : dp} (h1 : D_L_steals N g x (sc D (i + 1)) (sc D (i + 2)) (sc D (i + 3)) (sc D (i + 4)) o δ = some (kk, δ1)) (h2 : D_X12_steals N g m (sc D (i + 1)) (sc D (i + 2)) (sc D (i + 3)) (sc D (i + 4)) δ1 = some (b, δ2)) (h3 : q_I δ2 12 0 m = kk) (h4 : kk = 0 → q_J δ2 o 0 = b.toInt64) (K : AW l D cy m_L_law d rc rs P X 2457 (lv0 D x m o i) [] (g, δ2)) : AW l D cy m_L_law d (rc + 3) (rs + 18) P X 1857 (lv0 D x m o i) [] (g, δ) := by
  refine a_wk (rc' := rc + 3) (rs' := rs + 18) (by omega) (by omega) ?_
  refine a_aload_n 3 1 (μ := m_L_law) (pc := 1857) dL_law_1857 rfl rfl ?_
  refine l_arg (v := 1) 4 0 1858 dL_law_1858 dL_law_1859 dL_law_1861 dL_law_1862 dL_law_1863 rfl rfl (by decide) (hin 1 (by decide)) ?_
  refine l_arg (v := 2) 4 0 1864 dL_law_1864 dL_law_1865 dL_law_1867 dL_law_1868 dL_law_1869 rfl rfl (by decide) (hin 2 (by decide)) ?_
  refine l_arg (v := 3) 4 0 1870 dL_law_1870 dL_law_1871 dL_law_1873 dL_law_1874 dL_law_1875 rfl rfl (by decide) (hin 3 (by decide)) ?_
  refine l_arg (v := 4) 4 0 1876 dL_law_1876 dL_law_1877 dL_law_1879 dL_law_1880 dL_law_1881 rfl rfl (by decide) (hin 4 (by decide)) ?_
  refine a_aload_n 1 3 (μ := m_L_law) (pc := 1882) dL_law_1882 rfl rfl ?_
  refine a_callH (hh := hh_steals) (h := (g, δ)) (rc' := rc) (rs' := rs) (mc' := 3) (ms' := 18) (As := [.ref x, .int (sc D (i + 1)), .int (sc D (i + 2)), .int (sc D (i + 3)), .int (sc D (i + 4)), .ref o]) (rest := []) (μ := m_L_law) (pc := 1883) dL_law_1883 ch_196 rfl (Nat.le_of_ble_eq_true rfl) (d' := d - 1) (by omega) (by omega) (by omega) (c_L_steals (N := N) wt hl (d := d - 1) (by omega) kx ko (kk, δ1) h1 ?_)
  show AW _ _ _ _ _ _ _ _ _ (1883 + 3) _ [.int kk] (g, δ1)
  refine a_istore ((5, .int kk) :: lv0 D x m o i) (μ := m_L_law) (pc := 1886) dL_law_1886 (by decide) rfl ?_
  refine a_aload_n 3 2 (μ := m_L_law) (pc := 1888) dL_law_1888 rfl rfl ?_
  refine l_arg (v := 1) 5 1 1889 dL_law_1889 dL_law_1890 dL_law_1892 dL_law_1893 dL_law_1894 rfl rfl (by decide) (hin 1 (by decide)) ?_
  refine l_arg (v := 2) 5 1 1895 dL_law_1895 dL_law_1896 dL_law_1898 dL_law_1899 dL_law_1900 rfl rfl (by decide) (hin 2 (by decide)) ?_
  refine l_arg (v := 3) 5 1 1901 dL_law_1901 dL_law_1902 dL_law_1904 dL_law_1905 dL_law_1906 rfl rfl (by decide) (hin 3 (by decide)) ?_
  refine l_arg (v := 4) 5 1 1907 dL_law_1907 dL_law_1908 dL_law_1910 dL_law_1911 dL_law_1912 rfl rfl (by decide) (hin 4 (by decide)) ?_
  refine a_callV (h := (g, δ1)) (rc' := rc) (rs' := rs) (As := [.int (sc D (i + 1)), .int (sc D (i + 2)), .int (sc D (i + 3)), .int (sc D (i + 4))]) (rest := []) (μ := m_L_law) (pc := 1913) dL_law_1913 cv_L_198 rfl km (by decide) rfl (Nat.le_of_ble_eq_true rfl) (d' := d - 1) (by omega) (by omega) (by omega) (c_X12_steals (N := N) wt hl (d := d - 1) (by omega) km (b, δ2) h2 _ _ ?_)
  show AW _ _ _ _ _ _ _ _ _ (1913 + 3) _ [.int b] (g, δ2)
  refine a_istore ((6, .int b) :: (5, .int kk) :: lv0 D x m o i) (μ := m_L_law) (pc := 1916) dL_law_1916 (by decide) rfl ?_
  refine a_aload_n 4 2 (μ := m_L_law) (pc := 1918) dL_law_1918 rfl rfl ?_
  refine a_callV (h := (g, δ2)) (rc' := rc) (rs' := rs) (As := []) (rest := []) (μ := m_L_law) (pc := 1919) dL_law_1919 cv_L_122 rfl km (by decide) rfl (Nat.le_of_ble_eq_true rfl) (d' := d - 1) (by omega) (by omega) (by omega) (c_X12_thrown (N := N) wt hl (d := d - 1) (by omega) km (q_I δ2 12 0 m, δ2) rfl _ _ ?_)
  show AW _ _ _ _ _ _ _ _ _ (1919 + 3) _ [.int (q_I δ2 12 0 m)] (g, δ2)
  refine a_iload 1 (μ := m_L_law) (pc := 1922) dL_law_1922 rfl ?_
  refine a_icmp_eq 1929 (μ := m_L_law) (pc := 1924) dL_law_1924 (by decide) (fun _ => ?_) (fun z => absurd h3 z)
  refine a_iload 1 (μ := m_L_law) (pc := 1929) dL_law_1929 rfl ?_
  refine a_if_ne 1946 (μ := m_L_law) (pc := 1931) dL_law_1931 (by decide) (fun _ => ?_) (fun z => ?_)
  · refine a_goto 2457 (μ := m_L_law) (pc := 1946) dL_law_1946 (by decide) ?_
    exact a_lv [2, 3, 4, 5, 6] rfl K
  · refine a_aload_n 3 3 (μ := m_L_law) (pc := 1934) dL_law_1934 rfl rfl ?_
    refine a_iconst (v := 0) (μ := m_L_law) (pc := 1935) dL_law_1935 (by decide) ?_
    refine a_lald (μ := m_L_law) (pc := 1936) dL_law_1936 ko (vp_n (by rw [ho]; decide)) ?_
    rw [z_nat]
    refine a_iload 0 (μ := m_L_law) (pc := 1937) dL_law_1937 rfl ?_
    refine a_i2l (μ := m_L_law) (pc := 1939) dL_law_1939 ?_
    refine a_lcmp (μ := m_L_law) (pc := 1940) dL_law_1940 ?_
    rw [h4 z, lg_self]
    refine a_if_eq 1946 (μ := m_L_law) (pc := 1941) dL_law_1941 (by decide) (fun _ => ?_) (fun z => absurd rfl z)
    refine a_goto 2457 (μ := m_L_law) (pc := 1946) dL_law_1946 (by decide) ?_
    exact a_lv [2, 3, 4, 5, 6] rfl K
set_option maxHeartbeats 4000000 in
theorem lw_25 {l : Launch} {D : va_G} {cy : Nat → ClassId} {N d rc rs : Nat} {P : Option Value → hp → Prop} {X : String → hp → Prop} {g : gp} (wt : WT g) (hl : l.stackTraces = false) (hd : 91 ≤ d) {x m o : Nat} {i : Int32} {δ : dp} (kx : q_K g x = 11) (km : q_K g m = 12) (ko : q_K g o = 14) (ho : q_N g o = 1) (hin : ∀ v : Int32, v ∈ [1, 2, 3, 4, 5] → vp_in (i + v) (D.2 102 1)) {kk b : Int32} {δ1 δ2 : dp} (h1 : D_L_reached N g x (sc D (i + 1)) o δ = some (kk, δ1)) (h2 : D_X12_reached N g m (sc D (i + 1)) δ1 = some (b, δ2)) (h3 : q_I δ2 12 0 m = kk) (h4 : kk = 0 → q_J δ2 o 0 = b.toInt64) (K : AW l D cy m_L_law d rc rs P X 2457 (lv0 D x m o i) [] (g, δ2)) : AW l D cy m_L_law d (rc + 3) (rs + 18) P X 1949 (lv0 D x m o i) [] (g, δ) := by
  refine a_wk (rc' := rc + 3) (rs' := rs + 18) (by omega) (by omega) ?_
  refine a_aload_n 3 1 (μ := m_L_law) (pc := 1949) dL_law_1949 rfl rfl ?_
  refine l_arg (v := 1) 4 0 1950 dL_law_1950 dL_law_1951 dL_law_1953 dL_law_1954 dL_law_1955 rfl rfl (by decide) (hin 1 (by decide)) ?_
  refine a_aload_n 1 3 (μ := m_L_law) (pc := 1956) dL_law_1956 rfl rfl ?_
  refine a_callH (hh := hh_reached) (h := (g, δ)) (rc' := rc) (rs' := rs) (mc' := 1) (ms' := 6) (As := [.ref x, .int (sc D (i + 1)), .ref o]) (rest := []) (μ := m_L_law) (pc := 1957) dL_law_1957 ch_199 rfl (Nat.le_of_ble_eq_true rfl) (d' := d - 1) (by omega) (by omega) (by omega) (c_L_reached (N := N) wt hl (d := d - 1) (by omega) kx ko (kk, δ1) h1 ?_)
  show AW _ _ _ _ _ _ _ _ _ (1957 + 3) _ [.int kk] (g, δ1)
  refine a_istore ((5, .int kk) :: lv0 D x m o i) (μ := m_L_law) (pc := 1960) dL_law_1960 (by decide) rfl ?_
  refine a_aload_n 3 2 (μ := m_L_law) (pc := 1962) dL_law_1962 rfl rfl ?_
  refine l_arg (v := 1) 5 1 1963 dL_law_1963 dL_law_1964 dL_law_1966 dL_law_1967 dL_law_1968 rfl rfl (by decide) (hin 1 (by decide)) ?_
  refine a_callV (h := (g, δ1)) (rc' := rc) (rs' := rs) (As := [.int (sc D (i + 1))]) (rest := []) (μ := m_L_law) (pc := 1969) dL_law_1969 cv_L_201 rfl km (by decide) rfl (Nat.le_of_ble_eq_true rfl) (d' := d - 1) (by omega) (by omega) (by omega) (c_X12_reached (N := N) wt hl (d := d - 1) (by omega) km (b, δ2) h2 _ _ ?_)
  show AW _ _ _ _ _ _ _ _ _ (1969 + 3) _ [.int b] (g, δ2)
  refine a_istore ((6, .int b) :: (5, .int kk) :: lv0 D x m o i) (μ := m_L_law) (pc := 1972) dL_law_1972 (by decide) rfl ?_
  refine a_aload_n 4 2 (μ := m_L_law) (pc := 1974) dL_law_1974 rfl rfl ?_
  refine a_callV (h := (g, δ2)) (rc' := rc) (rs' := rs) (As := []) (rest := []) (μ := m_L_law) (pc := 1975) dL_law_1975 cv_L_122 rfl km (by decide) rfl (Nat.le_of_ble_eq_true rfl) (d' := d - 1) (by omega) (by omega) (by omega) (c_X12_thrown (N := N) wt hl (d := d - 1) (by omega) km (q_I δ2 12 0 m, δ2) rfl _ _ ?_)
  show AW _ _ _ _ _ _ _ _ _ (1975 + 3) _ [.int (q_I δ2 12 0 m)] (g, δ2)
  refine a_iload 1 (μ := m_L_law) (pc := 1978) dL_law_1978 rfl ?_
  refine a_icmp_eq 1985 (μ := m_L_law) (pc := 1980) dL_law_1980 (by decide) (fun _ => ?_) (fun z => absurd h3 z)
  refine a_iload 1 (μ := m_L_law) (pc := 1985) dL_law_1985 rfl ?_
  refine a_if_ne 2002 (μ := m_L_law) (pc := 1987) dL_law_1987 (by decide) (fun _ => ?_) (fun z => ?_)
  · refine a_goto 2457 (μ := m_L_law) (pc := 2002) dL_law_2002 (by decide) ?_
    exact a_lv [2, 3, 4, 5, 6] rfl K
  · refine a_aload_n 3 3 (μ := m_L_law) (pc := 1990) dL_law_1990 rfl rfl ?_
    refine a_iconst (v := 0) (μ := m_L_law) (pc := 1991) dL_law_1991 (by decide) ?_
    refine a_lald (μ := m_L_law) (pc := 1992) dL_law_1992 ko (vp_n (by rw [ho]; decide)) ?_
    rw [z_nat]
    refine a_iload 0 (μ := m_L_law) (pc := 1993) dL_law_1993 rfl ?_
    refine a_i2l (μ := m_L_law) (pc := 1995) dL_law_1995 ?_
    refine a_lcmp (μ := m_L_law) (pc := 1996) dL_law_1996 ?_
    rw [h4 z, lg_self]
    refine a_if_eq 2002 (μ := m_L_law) (pc := 1997) dL_law_1997 (by decide) (fun _ => ?_) (fun z => absurd rfl z)
    refine a_goto 2457 (μ := m_L_law) (pc := 2002) dL_law_2002 (by decide) ?_
    exact a_lv [2, 3, 4, 5, 6] rfl K
set_option maxHeartbeats 4000000 in
theorem lw_26 {l : Launch} {D : va_G} {cy : Nat → ClassId} {N d rc rs : Nat} {P : Option Value → hp → Prop} {X : String → hp → Prop} {g : gp} (wt : WT g) (hl : l.stackTraces = false) (hd : 91 ≤ d) {x m o : Nat} {i : Int32} {δ : dp} (kx : q_K g x = 11) (km : q_K g m = 12) (ko : q_K g o = 14) (ho : q_N g o = 1) (hin : ∀ v : Int32, v ∈ [1, 2, 3, 4, 5] → vp_in (i + v) (D.2 102 1)) {kk b : Int32} {δ1 δ2 : dp} (h1 : D_L_row N g x (sc D (i + 1)) o δ = some (kk, δ1)) (h2 : D_X12_row N g m (sc D (i + 1)) δ1 = some (b, δ2)) (h3 : q_I δ2 12 0 m = kk) (h4 : kk = 0 → q_J δ2 o 0 = b.toInt64) (K : AW l D cy m_L_law d rc rs P X 2457 (lv0 D x m o i) [] (g, δ2)) : AW l D cy m_L_law d (rc + 3) (rs + 18) P X 2005 (lv0 D x m o i) [] (g, δ) := by
  refine a_wk (rc' := rc + 3) (rs' := rs + 18) (by omega) (by omega) ?_
  refine a_aload_n 3 1 (μ := m_L_law) (pc := 2005) dL_law_2005 rfl rfl ?_
  refine l_arg (v := 1) 4 0 2006 dL_law_2006 dL_law_2007 dL_law_2009 dL_law_2010 dL_law_2011 rfl rfl (by decide) (hin 1 (by decide)) ?_
  refine a_aload_n 1 3 (μ := m_L_law) (pc := 2012) dL_law_2012 rfl rfl ?_
  refine a_callH (hh := hh_row) (h := (g, δ)) (rc' := rc) (rs' := rs) (mc' := 1) (ms' := 6) (As := [.ref x, .int (sc D (i + 1)), .ref o]) (rest := []) (μ := m_L_law) (pc := 2013) dL_law_2013 ch_202 rfl (Nat.le_of_ble_eq_true rfl) (d' := d - 1) (by omega) (by omega) (by omega) (c_L_row (N := N) wt hl (d := d - 1) (by omega) kx ko (kk, δ1) h1 ?_)
  show AW _ _ _ _ _ _ _ _ _ (2013 + 3) _ [.int kk] (g, δ1)
  refine a_istore ((5, .int kk) :: lv0 D x m o i) (μ := m_L_law) (pc := 2016) dL_law_2016 (by decide) rfl ?_
  refine a_aload_n 3 2 (μ := m_L_law) (pc := 2018) dL_law_2018 rfl rfl ?_
  refine l_arg (v := 1) 5 1 2019 dL_law_2019 dL_law_2020 dL_law_2022 dL_law_2023 dL_law_2024 rfl rfl (by decide) (hin 1 (by decide)) ?_
  refine a_callV (h := (g, δ1)) (rc' := rc) (rs' := rs) (As := [.int (sc D (i + 1))]) (rest := []) (μ := m_L_law) (pc := 2025) dL_law_2025 cv_L_204 rfl km (by decide) rfl (Nat.le_of_ble_eq_true rfl) (d' := d - 1) (by omega) (by omega) (by omega) (c_X12_row (N := N) wt hl (d := d - 1) (by omega) km (b, δ2) h2 _ _ ?_)
  show AW _ _ _ _ _ _ _ _ _ (2025 + 3) _ [.int b] (g, δ2)
  refine a_istore ((6, .int b) :: (5, .int kk) :: lv0 D x m o i) (μ := m_L_law) (pc := 2028) dL_law_2028 (by decide) rfl ?_
  refine a_aload_n 4 2 (μ := m_L_law) (pc := 2030) dL_law_2030 rfl rfl ?_
  refine a_callV (h := (g, δ2)) (rc' := rc) (rs' := rs) (As := []) (rest := []) (μ := m_L_law) (pc := 2031) dL_law_2031 cv_L_122 rfl km (by decide) rfl (Nat.le_of_ble_eq_true rfl) (d' := d - 1) (by omega) (by omega) (by omega) (c_X12_thrown (N := N) wt hl (d := d - 1) (by omega) km (q_I δ2 12 0 m, δ2) rfl _ _ ?_)
  show AW _ _ _ _ _ _ _ _ _ (2031 + 3) _ [.int (q_I δ2 12 0 m)] (g, δ2)
  refine a_iload 1 (μ := m_L_law) (pc := 2034) dL_law_2034 rfl ?_
  refine a_icmp_eq 2041 (μ := m_L_law) (pc := 2036) dL_law_2036 (by decide) (fun _ => ?_) (fun z => absurd h3 z)
  refine a_iload 1 (μ := m_L_law) (pc := 2041) dL_law_2041 rfl ?_
  refine a_if_ne 2058 (μ := m_L_law) (pc := 2043) dL_law_2043 (by decide) (fun _ => ?_) (fun z => ?_)
  · refine a_goto 2457 (μ := m_L_law) (pc := 2058) dL_law_2058 (by decide) ?_
    exact a_lv [2, 3, 4, 5, 6] rfl K
  · refine a_aload_n 3 3 (μ := m_L_law) (pc := 2046) dL_law_2046 rfl rfl ?_
    refine a_iconst (v := 0) (μ := m_L_law) (pc := 2047) dL_law_2047 (by decide) ?_
    refine a_lald (μ := m_L_law) (pc := 2048) dL_law_2048 ko (vp_n (by rw [ho]; decide)) ?_
    rw [z_nat]
    refine a_iload 0 (μ := m_L_law) (pc := 2049) dL_law_2049 rfl ?_
    refine a_i2l (μ := m_L_law) (pc := 2051) dL_law_2051 ?_
    refine a_lcmp (μ := m_L_law) (pc := 2052) dL_law_2052 ?_
    rw [h4 z, lg_self]
    refine a_if_eq 2058 (μ := m_L_law) (pc := 2053) dL_law_2053 (by decide) (fun _ => ?_) (fun z => absurd rfl z)
    refine a_goto 2457 (μ := m_L_law) (pc := 2058) dL_law_2058 (by decide) ?_
    exact a_lv [2, 3, 4, 5, 6] rfl K
set_option maxHeartbeats 4000000 in
theorem lw_27 {l : Launch} {D : va_G} {cy : Nat → ClassId} {N d rc rs : Nat} {P : Option Value → hp → Prop} {X : String → hp → Prop} {g : gp} (wt : WT g) (hl : l.stackTraces = false) (hd : 91 ≤ d) {x m o : Nat} {i : Int32} {δ : dp} (kx : q_K g x = 11) (km : q_K g m = 12) (ko : q_K g o = 14) (ho : q_N g o = 1) (hin : ∀ v : Int32, v ∈ [1, 2, 3, 4, 5] → vp_in (i + v) (D.2 102 1)) {kk b : Int32} {δ1 δ2 : dp} (h1 : D_L_rowCall N g x (sc D (i + 1)) (sc D (i + 2)) o δ = some (kk, δ1)) (h2 : D_X12_rowCall N g m (sc D (i + 1)) (sc D (i + 2)) δ1 = some (b, δ2)) (h3 : q_I δ2 12 0 m = kk) (h4 : kk = 0 → q_J δ2 o 0 = b.toInt64) (K : AW l D cy m_L_law d rc rs P X 2457 (lv0 D x m o i) [] (g, δ2)) : AW l D cy m_L_law d (rc + 3) (rs + 18) P X 2061 (lv0 D x m o i) [] (g, δ) := by
  refine a_wk (rc' := rc + 3) (rs' := rs + 18) (by omega) (by omega) ?_
  refine a_aload_n 3 1 (μ := m_L_law) (pc := 2061) dL_law_2061 rfl rfl ?_
  refine l_arg (v := 1) 4 0 2062 dL_law_2062 dL_law_2063 dL_law_2065 dL_law_2066 dL_law_2067 rfl rfl (by decide) (hin 1 (by decide)) ?_
  refine l_arg (v := 2) 4 0 2068 dL_law_2068 dL_law_2069 dL_law_2071 dL_law_2072 dL_law_2073 rfl rfl (by decide) (hin 2 (by decide)) ?_
  refine a_aload_n 1 3 (μ := m_L_law) (pc := 2074) dL_law_2074 rfl rfl ?_
  refine a_callH (hh := hh_rowCall) (h := (g, δ)) (rc' := rc) (rs' := rs) (mc' := 1) (ms' := 6) (As := [.ref x, .int (sc D (i + 1)), .int (sc D (i + 2)), .ref o]) (rest := []) (μ := m_L_law) (pc := 2075) dL_law_2075 ch_205 rfl (Nat.le_of_ble_eq_true rfl) (d' := d - 1) (by omega) (by omega) (by omega) (c_L_rowCall (N := N) wt hl (d := d - 1) (by omega) kx ko (kk, δ1) h1 ?_)
  show AW _ _ _ _ _ _ _ _ _ (2075 + 3) _ [.int kk] (g, δ1)
  refine a_istore ((5, .int kk) :: lv0 D x m o i) (μ := m_L_law) (pc := 2078) dL_law_2078 (by decide) rfl ?_
  refine a_aload_n 3 2 (μ := m_L_law) (pc := 2080) dL_law_2080 rfl rfl ?_
  refine l_arg (v := 1) 5 1 2081 dL_law_2081 dL_law_2082 dL_law_2084 dL_law_2085 dL_law_2086 rfl rfl (by decide) (hin 1 (by decide)) ?_
  refine l_arg (v := 2) 5 1 2087 dL_law_2087 dL_law_2088 dL_law_2090 dL_law_2091 dL_law_2092 rfl rfl (by decide) (hin 2 (by decide)) ?_
  refine a_callV (h := (g, δ1)) (rc' := rc) (rs' := rs) (As := [.int (sc D (i + 1)), .int (sc D (i + 2))]) (rest := []) (μ := m_L_law) (pc := 2093) dL_law_2093 cv_L_207 rfl km (by decide) rfl (Nat.le_of_ble_eq_true rfl) (d' := d - 1) (by omega) (by omega) (by omega) (c_X12_rowCall (N := N) wt hl (d := d - 1) (by omega) km (b, δ2) h2 _ _ ?_)
  show AW _ _ _ _ _ _ _ _ _ (2093 + 3) _ [.int b] (g, δ2)
  refine a_istore ((6, .int b) :: (5, .int kk) :: lv0 D x m o i) (μ := m_L_law) (pc := 2096) dL_law_2096 (by decide) rfl ?_
  refine a_aload_n 4 2 (μ := m_L_law) (pc := 2098) dL_law_2098 rfl rfl ?_
  refine a_callV (h := (g, δ2)) (rc' := rc) (rs' := rs) (As := []) (rest := []) (μ := m_L_law) (pc := 2099) dL_law_2099 cv_L_122 rfl km (by decide) rfl (Nat.le_of_ble_eq_true rfl) (d' := d - 1) (by omega) (by omega) (by omega) (c_X12_thrown (N := N) wt hl (d := d - 1) (by omega) km (q_I δ2 12 0 m, δ2) rfl _ _ ?_)
  show AW _ _ _ _ _ _ _ _ _ (2099 + 3) _ [.int (q_I δ2 12 0 m)] (g, δ2)
  refine a_iload 1 (μ := m_L_law) (pc := 2102) dL_law_2102 rfl ?_
  refine a_icmp_eq 2109 (μ := m_L_law) (pc := 2104) dL_law_2104 (by decide) (fun _ => ?_) (fun z => absurd h3 z)
  refine a_iload 1 (μ := m_L_law) (pc := 2109) dL_law_2109 rfl ?_
  refine a_if_ne 2126 (μ := m_L_law) (pc := 2111) dL_law_2111 (by decide) (fun _ => ?_) (fun z => ?_)
  · refine a_goto 2457 (μ := m_L_law) (pc := 2126) dL_law_2126 (by decide) ?_
    exact a_lv [2, 3, 4, 5, 6] rfl K
  · refine a_aload_n 3 3 (μ := m_L_law) (pc := 2114) dL_law_2114 rfl rfl ?_
    refine a_iconst (v := 0) (μ := m_L_law) (pc := 2115) dL_law_2115 (by decide) ?_
    refine a_lald (μ := m_L_law) (pc := 2116) dL_law_2116 ko (vp_n (by rw [ho]; decide)) ?_
    rw [z_nat]
    refine a_iload 0 (μ := m_L_law) (pc := 2117) dL_law_2117 rfl ?_
    refine a_i2l (μ := m_L_law) (pc := 2119) dL_law_2119 ?_
    refine a_lcmp (μ := m_L_law) (pc := 2120) dL_law_2120 ?_
    rw [h4 z, lg_self]
    refine a_if_eq 2126 (μ := m_L_law) (pc := 2121) dL_law_2121 (by decide) (fun _ => ?_) (fun z => absurd rfl z)
    refine a_goto 2457 (μ := m_L_law) (pc := 2126) dL_law_2126 (by decide) ?_
    exact a_lv [2, 3, 4, 5, 6] rfl K
set_option maxHeartbeats 4000000 in
theorem lw_28 {l : Launch} {D : va_G} {cy : Nat → ClassId} {N d rc rs : Nat} {P : Option Value → hp → Prop} {X : String → hp → Prop} {g : gp} (wt : WT g) (hl : l.stackTraces = false) (hd : 91 ≤ d) {x m o : Nat} {i : Int32} {δ : dp} (kx : q_K g x = 11) (km : q_K g m = 12) (ko : q_K g o = 14) (ho : q_N g o = 1) (hin : ∀ v : Int32, v ∈ [1, 2, 3, 4, 5] → vp_in (i + v) (D.2 102 1)) {kk b : Int32} {δ1 δ2 : dp} (h1 : D_L_split N g x (sc D (i + 1)) (sc D (i + 2)) (sc D (i + 3)) o δ = some (kk, δ1)) (h2 : D_X12_split N g m (sc D (i + 1)) (sc D (i + 2)) (sc D (i + 3)) δ1 = some (b, δ2)) (h3 : q_I δ2 12 0 m = kk) (h4 : kk = 0 → q_J δ2 o 0 = b.toInt64) (K : AW l D cy m_L_law d rc rs P X 2457 (lv0 D x m o i) [] (g, δ2)) : AW l D cy m_L_law d (rc + 3) (rs + 18) P X 2129 (lv0 D x m o i) [] (g, δ) := by
  refine a_wk (rc' := rc + 3) (rs' := rs + 18) (by omega) (by omega) ?_
  refine a_aload_n 3 1 (μ := m_L_law) (pc := 2129) dL_law_2129 rfl rfl ?_
  refine l_arg (v := 1) 4 0 2130 dL_law_2130 dL_law_2131 dL_law_2133 dL_law_2134 dL_law_2135 rfl rfl (by decide) (hin 1 (by decide)) ?_
  refine l_arg (v := 2) 4 0 2136 dL_law_2136 dL_law_2137 dL_law_2139 dL_law_2140 dL_law_2141 rfl rfl (by decide) (hin 2 (by decide)) ?_
  refine l_arg (v := 3) 4 0 2142 dL_law_2142 dL_law_2143 dL_law_2145 dL_law_2146 dL_law_2147 rfl rfl (by decide) (hin 3 (by decide)) ?_
  refine a_aload_n 1 3 (μ := m_L_law) (pc := 2148) dL_law_2148 rfl rfl ?_
  refine a_callH (hh := hh_split) (h := (g, δ)) (rc' := rc) (rs' := rs) (mc' := 3) (ms' := 18) (As := [.ref x, .int (sc D (i + 1)), .int (sc D (i + 2)), .int (sc D (i + 3)), .ref o]) (rest := []) (μ := m_L_law) (pc := 2149) dL_law_2149 ch_208 rfl (Nat.le_of_ble_eq_true rfl) (d' := d - 1) (by omega) (by omega) (by omega) (c_L_split (N := N) wt hl (d := d - 1) (by omega) kx ko (kk, δ1) h1 ?_)
  show AW _ _ _ _ _ _ _ _ _ (2149 + 3) _ [.int kk] (g, δ1)
  refine a_istore ((5, .int kk) :: lv0 D x m o i) (μ := m_L_law) (pc := 2152) dL_law_2152 (by decide) rfl ?_
  refine a_aload_n 3 2 (μ := m_L_law) (pc := 2154) dL_law_2154 rfl rfl ?_
  refine l_arg (v := 1) 5 1 2155 dL_law_2155 dL_law_2156 dL_law_2158 dL_law_2159 dL_law_2160 rfl rfl (by decide) (hin 1 (by decide)) ?_
  refine l_arg (v := 2) 5 1 2161 dL_law_2161 dL_law_2162 dL_law_2164 dL_law_2165 dL_law_2166 rfl rfl (by decide) (hin 2 (by decide)) ?_
  refine l_arg (v := 3) 5 1 2167 dL_law_2167 dL_law_2168 dL_law_2170 dL_law_2171 dL_law_2172 rfl rfl (by decide) (hin 3 (by decide)) ?_
  refine a_callV (h := (g, δ1)) (rc' := rc) (rs' := rs) (As := [.int (sc D (i + 1)), .int (sc D (i + 2)), .int (sc D (i + 3))]) (rest := []) (μ := m_L_law) (pc := 2173) dL_law_2173 cv_L_210 rfl km (by decide) rfl (Nat.le_of_ble_eq_true rfl) (d' := d - 1) (by omega) (by omega) (by omega) (c_X12_split (N := N) wt hl (d := d - 1) (by omega) km (b, δ2) h2 _ _ ?_)
  show AW _ _ _ _ _ _ _ _ _ (2173 + 3) _ [.int b] (g, δ2)
  refine a_istore ((6, .int b) :: (5, .int kk) :: lv0 D x m o i) (μ := m_L_law) (pc := 2176) dL_law_2176 (by decide) rfl ?_
  refine a_aload_n 4 2 (μ := m_L_law) (pc := 2178) dL_law_2178 rfl rfl ?_
  refine a_callV (h := (g, δ2)) (rc' := rc) (rs' := rs) (As := []) (rest := []) (μ := m_L_law) (pc := 2179) dL_law_2179 cv_L_122 rfl km (by decide) rfl (Nat.le_of_ble_eq_true rfl) (d' := d - 1) (by omega) (by omega) (by omega) (c_X12_thrown (N := N) wt hl (d := d - 1) (by omega) km (q_I δ2 12 0 m, δ2) rfl _ _ ?_)
  show AW _ _ _ _ _ _ _ _ _ (2179 + 3) _ [.int (q_I δ2 12 0 m)] (g, δ2)
  refine a_iload 1 (μ := m_L_law) (pc := 2182) dL_law_2182 rfl ?_
  refine a_icmp_eq 2189 (μ := m_L_law) (pc := 2184) dL_law_2184 (by decide) (fun _ => ?_) (fun z => absurd h3 z)
  refine a_iload 1 (μ := m_L_law) (pc := 2189) dL_law_2189 rfl ?_
  refine a_if_ne 2206 (μ := m_L_law) (pc := 2191) dL_law_2191 (by decide) (fun _ => ?_) (fun z => ?_)
  · refine a_goto 2457 (μ := m_L_law) (pc := 2206) dL_law_2206 (by decide) ?_
    exact a_lv [2, 3, 4, 5, 6] rfl K
  · refine a_aload_n 3 3 (μ := m_L_law) (pc := 2194) dL_law_2194 rfl rfl ?_
    refine a_iconst (v := 0) (μ := m_L_law) (pc := 2195) dL_law_2195 (by decide) ?_
    refine a_lald (μ := m_L_law) (pc := 2196) dL_law_2196 ko (vp_n (by rw [ho]; decide)) ?_
    rw [z_nat]
    refine a_iload 0 (μ := m_L_law) (pc := 2197) dL_law_2197 rfl ?_
    refine a_i2l (μ := m_L_law) (pc := 2199) dL_law_2199 ?_
    refine a_lcmp (μ := m_L_law) (pc := 2200) dL_law_2200 ?_
    rw [h4 z, lg_self]
    refine a_if_eq 2206 (μ := m_L_law) (pc := 2201) dL_law_2201 (by decide) (fun _ => ?_) (fun z => absurd rfl z)
    refine a_goto 2457 (μ := m_L_law) (pc := 2206) dL_law_2206 (by decide) ?_
    exact a_lv [2, 3, 4, 5, 6] rfl K
set_option maxHeartbeats 4000000 in
theorem lw_29 {l : Launch} {D : va_G} {cy : Nat → ClassId} {N d rc rs : Nat} {P : Option Value → hp → Prop} {X : String → hp → Prop} {g : gp} (wt : WT g) (hl : l.stackTraces = false) (hd : 91 ≤ d) {x m o : Nat} {i : Int32} {δ : dp} (kx : q_K g x = 11) (km : q_K g m = 12) (ko : q_K g o = 14) (ho : q_N g o = 1) (hin : ∀ v : Int32, v ∈ [1, 2, 3, 4, 5] → vp_in (i + v) (D.2 102 1)) {kk b : Int32} {δ1 δ2 : dp} (h1 : D_L_gap N g x (sc D (i + 1)) (sc D (i + 2)) o δ = some (kk, δ1)) (h2 : D_X12_gap N g m (sc D (i + 1)) (sc D (i + 2)) δ1 = some (b, δ2)) (h3 : q_I δ2 12 0 m = kk) (h4 : kk = 0 → q_J δ2 o 0 = b.toInt64) (K : AW l D cy m_L_law d rc rs P X 2457 (lv0 D x m o i) [] (g, δ2)) : AW l D cy m_L_law d (rc + 3) (rs + 18) P X 2209 (lv0 D x m o i) [] (g, δ) := by
  refine a_wk (rc' := rc + 3) (rs' := rs + 18) (by omega) (by omega) ?_
  refine a_aload_n 3 1 (μ := m_L_law) (pc := 2209) dL_law_2209 rfl rfl ?_
  refine l_arg (v := 1) 4 0 2210 dL_law_2210 dL_law_2211 dL_law_2213 dL_law_2214 dL_law_2215 rfl rfl (by decide) (hin 1 (by decide)) ?_
  refine l_arg (v := 2) 4 0 2216 dL_law_2216 dL_law_2217 dL_law_2219 dL_law_2220 dL_law_2221 rfl rfl (by decide) (hin 2 (by decide)) ?_
  refine a_aload_n 1 3 (μ := m_L_law) (pc := 2222) dL_law_2222 rfl rfl ?_
  refine a_callH (hh := hh_gap) (h := (g, δ)) (rc' := rc) (rs' := rs) (mc' := 2) (ms' := 12) (As := [.ref x, .int (sc D (i + 1)), .int (sc D (i + 2)), .ref o]) (rest := []) (μ := m_L_law) (pc := 2223) dL_law_2223 ch_211 rfl (Nat.le_of_ble_eq_true rfl) (d' := d - 1) (by omega) (by omega) (by omega) (c_L_gap (N := N) wt hl (d := d - 1) (by omega) kx ko (kk, δ1) h1 ?_)
  show AW _ _ _ _ _ _ _ _ _ (2223 + 3) _ [.int kk] (g, δ1)
  refine a_istore ((5, .int kk) :: lv0 D x m o i) (μ := m_L_law) (pc := 2226) dL_law_2226 (by decide) rfl ?_
  refine a_aload_n 3 2 (μ := m_L_law) (pc := 2228) dL_law_2228 rfl rfl ?_
  refine l_arg (v := 1) 5 1 2229 dL_law_2229 dL_law_2230 dL_law_2232 dL_law_2233 dL_law_2234 rfl rfl (by decide) (hin 1 (by decide)) ?_
  refine l_arg (v := 2) 5 1 2235 dL_law_2235 dL_law_2236 dL_law_2238 dL_law_2239 dL_law_2240 rfl rfl (by decide) (hin 2 (by decide)) ?_
  refine a_callV (h := (g, δ1)) (rc' := rc) (rs' := rs) (As := [.int (sc D (i + 1)), .int (sc D (i + 2))]) (rest := []) (μ := m_L_law) (pc := 2241) dL_law_2241 cv_L_213 rfl km (by decide) rfl (Nat.le_of_ble_eq_true rfl) (d' := d - 1) (by omega) (by omega) (by omega) (c_X12_gap (N := N) wt hl (d := d - 1) (by omega) km (b, δ2) h2 _ _ ?_)
  show AW _ _ _ _ _ _ _ _ _ (2241 + 3) _ [.int b] (g, δ2)
  refine a_istore ((6, .int b) :: (5, .int kk) :: lv0 D x m o i) (μ := m_L_law) (pc := 2244) dL_law_2244 (by decide) rfl ?_
  refine a_aload_n 4 2 (μ := m_L_law) (pc := 2246) dL_law_2246 rfl rfl ?_
  refine a_callV (h := (g, δ2)) (rc' := rc) (rs' := rs) (As := []) (rest := []) (μ := m_L_law) (pc := 2247) dL_law_2247 cv_L_122 rfl km (by decide) rfl (Nat.le_of_ble_eq_true rfl) (d' := d - 1) (by omega) (by omega) (by omega) (c_X12_thrown (N := N) wt hl (d := d - 1) (by omega) km (q_I δ2 12 0 m, δ2) rfl _ _ ?_)
  show AW _ _ _ _ _ _ _ _ _ (2247 + 3) _ [.int (q_I δ2 12 0 m)] (g, δ2)
  refine a_iload 1 (μ := m_L_law) (pc := 2250) dL_law_2250 rfl ?_
  refine a_icmp_eq 2257 (μ := m_L_law) (pc := 2252) dL_law_2252 (by decide) (fun _ => ?_) (fun z => absurd h3 z)
  refine a_iload 1 (μ := m_L_law) (pc := 2257) dL_law_2257 rfl ?_
  refine a_if_ne 2274 (μ := m_L_law) (pc := 2259) dL_law_2259 (by decide) (fun _ => ?_) (fun z => ?_)
  · refine a_goto 2457 (μ := m_L_law) (pc := 2274) dL_law_2274 (by decide) ?_
    exact a_lv [2, 3, 4, 5, 6] rfl K
  · refine a_aload_n 3 3 (μ := m_L_law) (pc := 2262) dL_law_2262 rfl rfl ?_
    refine a_iconst (v := 0) (μ := m_L_law) (pc := 2263) dL_law_2263 (by decide) ?_
    refine a_lald (μ := m_L_law) (pc := 2264) dL_law_2264 ko (vp_n (by rw [ho]; decide)) ?_
    rw [z_nat]
    refine a_iload 0 (μ := m_L_law) (pc := 2265) dL_law_2265 rfl ?_
    refine a_i2l (μ := m_L_law) (pc := 2267) dL_law_2267 ?_
    refine a_lcmp (μ := m_L_law) (pc := 2268) dL_law_2268 ?_
    rw [h4 z, lg_self]
    refine a_if_eq 2274 (μ := m_L_law) (pc := 2269) dL_law_2269 (by decide) (fun _ => ?_) (fun z => absurd rfl z)
    refine a_goto 2457 (μ := m_L_law) (pc := 2274) dL_law_2274 (by decide) ?_
    exact a_lv [2, 3, 4, 5, 6] rfl K
set_option maxHeartbeats 4000000 in
theorem lw_30 {l : Launch} {D : va_G} {cy : Nat → ClassId} {N d rc rs : Nat} {P : Option Value → hp → Prop} {X : String → hp → Prop} {g : gp} (wt : WT g) (hl : l.stackTraces = false) (hd : 91 ≤ d) {x m o : Nat} {i : Int32} {δ : dp} (kx : q_K g x = 11) (km : q_K g m = 12) (ko : q_K g o = 14) (ho : q_N g o = 1) (hin : ∀ v : Int32, v ∈ [1, 2, 3, 4, 5] → vp_in (i + v) (D.2 102 1)) {kk b : Int32} {δ1 δ2 : dp} (h1 : D_L_seeds N g x (sc D (i + 1)) (sc D (i + 2)) (sc D (i + 3)) (sc D (i + 4)) (sc D (i + 5)) o δ = some (kk, δ1)) (h2 : D_X12_seeds N g m (sc D (i + 1)) (sc D (i + 2)) (sc D (i + 3)) (sc D (i + 4)) (sc D (i + 5)) δ1 = some (b, δ2)) (h3 : q_I δ2 12 0 m = kk) (h4 : kk = 0 → q_J δ2 o 0 = b.toInt64) (K : AW l D cy m_L_law d rc rs P X 2457 (lv0 D x m o i) [] (g, δ2)) : AW l D cy m_L_law d (rc + 3) (rs + 18) P X 2277 (lv0 D x m o i) [] (g, δ) := by
  refine a_wk (rc' := rc + 3) (rs' := rs + 18) (by omega) (by omega) ?_
  refine a_aload_n 3 1 (μ := m_L_law) (pc := 2277) dL_law_2277 rfl rfl ?_
  refine l_arg (v := 1) 4 0 2278 dL_law_2278 dL_law_2279 dL_law_2281 dL_law_2282 dL_law_2283 rfl rfl (by decide) (hin 1 (by decide)) ?_
  refine l_arg (v := 2) 4 0 2284 dL_law_2284 dL_law_2285 dL_law_2287 dL_law_2288 dL_law_2289 rfl rfl (by decide) (hin 2 (by decide)) ?_
  refine l_arg (v := 3) 4 0 2290 dL_law_2290 dL_law_2291 dL_law_2293 dL_law_2294 dL_law_2295 rfl rfl (by decide) (hin 3 (by decide)) ?_
  refine l_arg (v := 4) 4 0 2296 dL_law_2296 dL_law_2297 dL_law_2299 dL_law_2300 dL_law_2301 rfl rfl (by decide) (hin 4 (by decide)) ?_
  refine l_arg (v := 5) 4 0 2302 dL_law_2302 dL_law_2303 dL_law_2305 dL_law_2306 dL_law_2307 rfl rfl (by decide) (hin 5 (by decide)) ?_
  refine a_aload_n 1 3 (μ := m_L_law) (pc := 2308) dL_law_2308 rfl rfl ?_
  refine a_callH (hh := hh_seeds) (h := (g, δ)) (rc' := rc) (rs' := rs) (mc' := 3) (ms' := 18) (As := [.ref x, .int (sc D (i + 1)), .int (sc D (i + 2)), .int (sc D (i + 3)), .int (sc D (i + 4)), .int (sc D (i + 5)), .ref o]) (rest := []) (μ := m_L_law) (pc := 2309) dL_law_2309 ch_214 rfl (Nat.le_of_ble_eq_true rfl) (d' := d - 1) (by omega) (by omega) (by omega) (c_L_seeds (N := N) wt hl (d := d - 1) (by omega) kx ko (kk, δ1) h1 ?_)
  show AW _ _ _ _ _ _ _ _ _ (2309 + 3) _ [.int kk] (g, δ1)
  refine a_istore ((5, .int kk) :: lv0 D x m o i) (μ := m_L_law) (pc := 2312) dL_law_2312 (by decide) rfl ?_
  refine a_aload_n 3 2 (μ := m_L_law) (pc := 2314) dL_law_2314 rfl rfl ?_
  refine l_arg (v := 1) 5 1 2315 dL_law_2315 dL_law_2316 dL_law_2318 dL_law_2319 dL_law_2320 rfl rfl (by decide) (hin 1 (by decide)) ?_
  refine l_arg (v := 2) 5 1 2321 dL_law_2321 dL_law_2322 dL_law_2324 dL_law_2325 dL_law_2326 rfl rfl (by decide) (hin 2 (by decide)) ?_
  refine l_arg (v := 3) 5 1 2327 dL_law_2327 dL_law_2328 dL_law_2330 dL_law_2331 dL_law_2332 rfl rfl (by decide) (hin 3 (by decide)) ?_
  refine l_arg (v := 4) 5 1 2333 dL_law_2333 dL_law_2334 dL_law_2336 dL_law_2337 dL_law_2338 rfl rfl (by decide) (hin 4 (by decide)) ?_
  refine l_arg (v := 5) 5 1 2339 dL_law_2339 dL_law_2340 dL_law_2342 dL_law_2343 dL_law_2344 rfl rfl (by decide) (hin 5 (by decide)) ?_
  refine a_callV (h := (g, δ1)) (rc' := rc) (rs' := rs) (As := [.int (sc D (i + 1)), .int (sc D (i + 2)), .int (sc D (i + 3)), .int (sc D (i + 4)), .int (sc D (i + 5))]) (rest := []) (μ := m_L_law) (pc := 2345) dL_law_2345 cv_L_217 rfl km (by decide) rfl (Nat.le_of_ble_eq_true rfl) (d' := d - 1) (by omega) (by omega) (by omega) (c_X12_seeds (N := N) wt hl (d := d - 1) (by omega) km (b, δ2) h2 _ _ ?_)
  show AW _ _ _ _ _ _ _ _ _ (2345 + 3) _ [.int b] (g, δ2)
  refine a_istore ((6, .int b) :: (5, .int kk) :: lv0 D x m o i) (μ := m_L_law) (pc := 2348) dL_law_2348 (by decide) rfl ?_
  refine a_aload_n 4 2 (μ := m_L_law) (pc := 2350) dL_law_2350 rfl rfl ?_
  refine a_callV (h := (g, δ2)) (rc' := rc) (rs' := rs) (As := []) (rest := []) (μ := m_L_law) (pc := 2351) dL_law_2351 cv_L_122 rfl km (by decide) rfl (Nat.le_of_ble_eq_true rfl) (d' := d - 1) (by omega) (by omega) (by omega) (c_X12_thrown (N := N) wt hl (d := d - 1) (by omega) km (q_I δ2 12 0 m, δ2) rfl _ _ ?_)
  show AW _ _ _ _ _ _ _ _ _ (2351 + 3) _ [.int (q_I δ2 12 0 m)] (g, δ2)
  refine a_iload 1 (μ := m_L_law) (pc := 2354) dL_law_2354 rfl ?_
  refine a_icmp_eq 2361 (μ := m_L_law) (pc := 2356) dL_law_2356 (by decide) (fun _ => ?_) (fun z => absurd h3 z)
  refine a_iload 1 (μ := m_L_law) (pc := 2361) dL_law_2361 rfl ?_
  refine a_if_ne 2378 (μ := m_L_law) (pc := 2363) dL_law_2363 (by decide) (fun _ => ?_) (fun z => ?_)
  · refine a_goto 2457 (μ := m_L_law) (pc := 2378) dL_law_2378 (by decide) ?_
    exact a_lv [2, 3, 4, 5, 6] rfl K
  · refine a_aload_n 3 3 (μ := m_L_law) (pc := 2366) dL_law_2366 rfl rfl ?_
    refine a_iconst (v := 0) (μ := m_L_law) (pc := 2367) dL_law_2367 (by decide) ?_
    refine a_lald (μ := m_L_law) (pc := 2368) dL_law_2368 ko (vp_n (by rw [ho]; decide)) ?_
    rw [z_nat]
    refine a_iload 0 (μ := m_L_law) (pc := 2369) dL_law_2369 rfl ?_
    refine a_i2l (μ := m_L_law) (pc := 2371) dL_law_2371 ?_
    refine a_lcmp (μ := m_L_law) (pc := 2372) dL_law_2372 ?_
    rw [h4 z, lg_self]
    refine a_if_eq 2378 (μ := m_L_law) (pc := 2373) dL_law_2373 (by decide) (fun _ => ?_) (fun z => absurd rfl z)
    refine a_goto 2457 (μ := m_L_law) (pc := 2378) dL_law_2378 (by decide) ?_
    exact a_lv [2, 3, 4, 5, 6] rfl K
set_option maxHeartbeats 4000000 in
theorem lw_31 {l : Launch} {D : va_G} {cy : Nat → ClassId} {N d rc rs : Nat} {P : Option Value → hp → Prop} {X : String → hp → Prop} {g : gp} (wt : WT g) (hl : l.stackTraces = false) (hd : 91 ≤ d) {x m o : Nat} {i : Int32} {δ : dp} (kx : q_K g x = 11) (km : q_K g m = 12) (ko : q_K g o = 14) (ho : q_N g o = 1) (hin : ∀ v : Int32, v ∈ [1, 2, 3, 4, 5] → vp_in (i + v) (D.2 102 1)) {b : Int32} {δ1 δ2 : dp} (h1 : D_X11_image N g x  δ = some (b, δ1)) (h2 : D_X12_image N g m  δ1 = some (b, δ2)) (K : AW l D cy m_L_law d rc rs P X 2457 (lv0 D x m o i) [] (g, δ2)) : AW l D cy m_L_law d (rc + 3) (rs + 18) P X 2381 (lv0 D x m o i) [] (g, δ) := by
  refine a_wk (rc' := rc + 3) (rs' := rs + 18) (by omega) (by omega) ?_
  refine a_aload_n 3 1 (μ := m_L_law) (pc := 2381) dL_law_2381 rfl rfl ?_
  refine a_callV (h := (g, δ)) (rc' := rc) (rs' := rs) (As := []) (rest := []) (μ := m_L_law) (pc := 2382) dL_law_2382 cv_L_218 rfl kx (by decide) rfl (Nat.le_of_ble_eq_true rfl) (d' := d - 1) (by omega) (by omega) (by omega) (c_X11_image (N := N) wt hl (d := d - 1) (by omega) kx (b, δ1) h1 _ _ ?_)
  show AW _ _ _ _ _ _ _ _ _ (2382 + 3) _ [.int b] (g, δ1)
  refine a_aload_n 2 2 (μ := m_L_law) (pc := 2385) dL_law_2385 rfl rfl ?_
  refine a_callV (h := (g, δ1)) (rc' := rc) (rs' := rs) (As := []) (rest := [.int b]) (μ := m_L_law) (pc := 2386) dL_law_2386 cv_L_221 rfl km (by decide) rfl (Nat.le_of_ble_eq_true rfl) (d' := d - 1) (by omega) (by omega) (by omega) (c_X12_image (N := N) wt hl (d := d - 1) (by omega) km (b, δ2) h2 _ _ ?_)
  show AW _ _ _ _ _ _ _ _ _ (2386 + 3) _ [.int b, .int b] (g, δ2)
  refine a_icmp_eq 2457 (μ := m_L_law) (pc := 2389) dL_law_2389 (by decide) (fun _ => ?_) (fun z => absurd rfl z)
  exact K
set_option maxHeartbeats 4000000 in
theorem lw_32 {l : Launch} {D : va_G} {cy : Nat → ClassId} {N d rc rs : Nat} {P : Option Value → hp → Prop} {X : String → hp → Prop} {g : gp} (wt : WT g) (hl : l.stackTraces = false) (hd : 91 ≤ d) {x m o : Nat} {i : Int32} {δ : dp} (kx : q_K g x = 11) (km : q_K g m = 12) (ko : q_K g o = 14) (ho : q_N g o = 1) (hin : ∀ v : Int32, v ∈ [1, 2, 3, 4, 5] → vp_in (i + v) (D.2 102 1)) {b : Int32} {δ1 δ2 : dp} (h1 : D_X11_restore N g x  δ = some (b, δ1)) (h2 : D_X12_restore N g m  δ1 = some (b, δ2)) (K : AW l D cy m_L_law d rc rs P X 2457 (lv0 D x m o i) [] (g, δ2)) : AW l D cy m_L_law d (rc + 3) (rs + 18) P X 2394 (lv0 D x m o i) [] (g, δ) := by
  refine a_wk (rc' := rc + 3) (rs' := rs + 18) (by omega) (by omega) ?_
  refine a_aload_n 3 1 (μ := m_L_law) (pc := 2394) dL_law_2394 rfl rfl ?_
  refine a_callV (h := (g, δ)) (rc' := rc) (rs' := rs) (As := []) (rest := []) (μ := m_L_law) (pc := 2395) dL_law_2395 cv_L_222 rfl kx (by decide) rfl (Nat.le_of_ble_eq_true rfl) (d' := d - 1) (by omega) (by omega) (by omega) (c_X11_restore (N := N) wt hl (d := d - 1) (by omega) kx (b, δ1) h1 _ _ ?_)
  show AW _ _ _ _ _ _ _ _ _ (2395 + 3) _ [.int b] (g, δ1)
  refine a_aload_n 2 2 (μ := m_L_law) (pc := 2398) dL_law_2398 rfl rfl ?_
  refine a_callV (h := (g, δ1)) (rc' := rc) (rs' := rs) (As := []) (rest := [.int b]) (μ := m_L_law) (pc := 2399) dL_law_2399 cv_L_225 rfl km (by decide) rfl (Nat.le_of_ble_eq_true rfl) (d' := d - 1) (by omega) (by omega) (by omega) (c_X12_restore (N := N) wt hl (d := d - 1) (by omega) km (b, δ2) h2 _ _ ?_)
  show AW _ _ _ _ _ _ _ _ _ (2399 + 3) _ [.int b, .int b] (g, δ2)
  refine a_icmp_eq 2457 (μ := m_L_law) (pc := 2402) dL_law_2402 (by decide) (fun _ => ?_) (fun z => absurd rfl z)
  exact K
set_option maxHeartbeats 4000000 in
theorem lw_33 {l : Launch} {D : va_G} {cy : Nat → ClassId} {N d rc rs : Nat} {P : Option Value → hp → Prop} {X : String → hp → Prop} {g : gp} (wt : WT g) (hl : l.stackTraces = false) (hd : 91 ≤ d) {x m o : Nat} {i : Int32} {δ : dp} (kx : q_K g x = 11) (km : q_K g m = 12) (ko : q_K g o = 14) (ho : q_N g o = 1) (hin : ∀ v : Int32, v ∈ [1, 2, 3, 4, 5] → vp_in (i + v) (D.2 102 1)) {b : Int32} {δ1 δ2 : dp} (h1 : D_X11_status N g x (sc D (i + 1)) δ = some (b, δ1)) (h2 : D_X12_status N g m (sc D (i + 1)) δ1 = some (b, δ2)) (K : AW l D cy m_L_law d rc rs P X 2457 (lv0 D x m o i) [] (g, δ2)) : AW l D cy m_L_law d (rc + 3) (rs + 18) P X 2407 (lv0 D x m o i) [] (g, δ) := by
  refine a_wk (rc' := rc + 3) (rs' := rs + 18) (by omega) (by omega) ?_
  refine a_aload_n 3 1 (μ := m_L_law) (pc := 2407) dL_law_2407 rfl rfl ?_
  refine l_arg (v := 1) 4 0 2408 dL_law_2408 dL_law_2409 dL_law_2411 dL_law_2412 dL_law_2413 rfl rfl (by decide) (hin 1 (by decide)) ?_
  refine a_callV (h := (g, δ)) (rc' := rc) (rs' := rs) (As := [.int (sc D (i + 1))]) (rest := []) (μ := m_L_law) (pc := 2414) dL_law_2414 cv_L_226 rfl kx (by decide) rfl (Nat.le_of_ble_eq_true rfl) (d' := d - 1) (by omega) (by omega) (by omega) (c_X11_status (N := N) wt hl (d := d - 1) (by omega) kx (b, δ1) h1 _ _ ?_)
  show AW _ _ _ _ _ _ _ _ _ (2414 + 3) _ [.int b] (g, δ1)
  refine a_aload_n 2 2 (μ := m_L_law) (pc := 2417) dL_law_2417 rfl rfl ?_
  refine l_arg (v := 1) 4 0 2418 dL_law_2418 dL_law_2419 dL_law_2421 dL_law_2422 dL_law_2423 rfl rfl (by decide) (hin 1 (by decide)) ?_
  refine a_callV (h := (g, δ1)) (rc' := rc) (rs' := rs) (As := [.int (sc D (i + 1))]) (rest := [.int b]) (μ := m_L_law) (pc := 2424) dL_law_2424 cv_L_229 rfl km (by decide) rfl (Nat.le_of_ble_eq_true rfl) (d' := d - 1) (by omega) (by omega) (by omega) (c_X12_status (N := N) wt hl (d := d - 1) (by omega) km (b, δ2) h2 _ _ ?_)
  show AW _ _ _ _ _ _ _ _ _ (2424 + 3) _ [.int b, .int b] (g, δ2)
  refine a_icmp_eq 2457 (μ := m_L_law) (pc := 2427) dL_law_2427 (by decide) (fun _ => ?_) (fun z => absurd rfl z)
  exact K
set_option maxHeartbeats 4000000 in
theorem lw_34 {l : Launch} {D : va_G} {cy : Nat → ClassId} {N d rc rs : Nat} {P : Option Value → hp → Prop} {X : String → hp → Prop} {g : gp} (wt : WT g) (hl : l.stackTraces = false) (hd : 91 ≤ d) {x m o : Nat} {i : Int32} {δ : dp} (kx : q_K g x = 11) (km : q_K g m = 12) (ko : q_K g o = 14) (ho : q_N g o = 1) (hin : ∀ v : Int32, v ∈ [1, 2, 3, 4, 5] → vp_in (i + v) (D.2 102 1)) {b : Int32} {δ1 δ2 : dp} (h1 : D_X11_count N g x (sc D (i + 1)) δ = some (b, δ1)) (h2 : D_X12_count N g m (sc D (i + 1)) δ1 = some (b, δ2)) (K : AW l D cy m_L_law d rc rs P X 2457 (lv0 D x m o i) [] (g, δ2)) : AW l D cy m_L_law d (rc + 3) (rs + 18) P X 2432 (lv0 D x m o i) [] (g, δ) := by
  refine a_wk (rc' := rc + 3) (rs' := rs + 18) (by omega) (by omega) ?_
  refine a_aload_n 3 1 (μ := m_L_law) (pc := 2432) dL_law_2432 rfl rfl ?_
  refine l_arg (v := 1) 4 0 2433 dL_law_2433 dL_law_2434 dL_law_2436 dL_law_2437 dL_law_2438 rfl rfl (by decide) (hin 1 (by decide)) ?_
  refine a_callV (h := (g, δ)) (rc' := rc) (rs' := rs) (As := [.int (sc D (i + 1))]) (rest := []) (μ := m_L_law) (pc := 2439) dL_law_2439 cv_L_230 rfl kx (by decide) rfl (Nat.le_of_ble_eq_true rfl) (d' := d - 1) (by omega) (by omega) (by omega) (c_X11_count (N := N) wt hl (d := d - 1) (by omega) kx (b, δ1) h1 _ _ ?_)
  show AW _ _ _ _ _ _ _ _ _ (2439 + 3) _ [.int b] (g, δ1)
  refine a_aload_n 2 2 (μ := m_L_law) (pc := 2442) dL_law_2442 rfl rfl ?_
  refine l_arg (v := 1) 4 0 2443 dL_law_2443 dL_law_2444 dL_law_2446 dL_law_2447 dL_law_2448 rfl rfl (by decide) (hin 1 (by decide)) ?_
  refine a_callV (h := (g, δ1)) (rc' := rc) (rs' := rs) (As := [.int (sc D (i + 1))]) (rest := [.int b]) (μ := m_L_law) (pc := 2449) dL_law_2449 cv_L_233 rfl km (by decide) rfl (Nat.le_of_ble_eq_true rfl) (d' := d - 1) (by omega) (by omega) (by omega) (c_X12_count (N := N) wt hl (d := d - 1) (by omega) km (b, δ2) h2 _ _ ?_)
  show AW _ _ _ _ _ _ _ _ _ (2449 + 3) _ [.int b, .int b] (g, δ2)
  refine a_icmp_eq 2457 (μ := m_L_law) (pc := 2452) dL_law_2452 (by decide) (fun _ => ?_) (fun z => absurd rfl z)
  exact K
