/-! the law's cases (by gen_law.py) -/
abbrev m_L_law : mth := (yL_law, cL_law, 7, some .boolean)
def sc (D : va_G) (j : Int32) : Int32 := Int32.ofNat (D.2 103 j.toNatClampNeg)
def lv0 (D : va_G) (x m o : Nat) (i : Int32) : List (Nat × Value) := [(4, .int i), (3, .ref o), (2, .ref m), (1, .ref x), (0, .ref (D.2 102 0))]
theorem lg_self (a : Int64) : lg_cmp a a = 0 := by
  unfold lg_cmp
  first
    | (simp; done)
    | (rw [if_neg (by simp), if_neg (by simp)]; done)
    | (split <;> simp_all)
theorem z_nat : (0 : Int32).toNatClampNeg = 0 := by decide
section LA
variable {l : Launch} {D : va_G} {cy : Nat → ClassId} {μ : mth} {d rc rs : Nat} {P : Option Value → hp → Prop} {X : String → hp → Prop} {lv : List (Nat × Value)} {st : List Value} {h : hp}
theorem l_arg {k : Int} {v i : Int32} (p0 p4 pc : Nat) (d0 : decode μ.2.1 pc = .ok (.aload_n 0, 1)) (d1 : decode μ.2.1 (pc + 1) = .ok (.iload 4, 2)) (d2 : decode μ.2.1 (pc + 3) = .ok (.iconst k, 1)) (d3 : decode μ.2.1 (pc + 4) = .ok (.iadd, 1)) (d4 : decode μ.2.1 (pc + 5) = .ok (.iaload, 1)) (hk0 : lv[p0]? = some (0, .ref (D.2 102 0))) (hk4 : lv[p4]? = some (4, .int i)) (hv : Int32.ofInt k = v) (hin : vp_in (i + v) (D.2 102 1)) (kk : AW l D cy μ d rc rs P X (pc + 6) lv (.int (sc D (i + v)) :: st) h) : AW l D cy μ d rc rs P X pc lv st h := by
  refine a_aload_n p0 0 d0 rfl hk0 ?_
  refine a_iload (pc := pc + 1) p4 d1 hk4 ?_
  refine a_iconst (pc := pc + 3) (v := v) d2 hv ?_
  refine a_iadd (pc := pc + 4) d3 ?_
  exact a_sld (pc := pc + 5) d4 hin kk
end LA
set_option maxHeartbeats 4000000 in
theorem lw_0 {l : Launch} {D : va_G} {cy : Nat → ClassId} {N d rc rs : Nat} {P : Option Value → hp → Prop} {X : String → hp → Prop} {g : gp} (wt : WT g) (hl : l.stackTraces = false) (hd : 91 ≤ d) {x m o : Nat} {i : Int32} {δ : dp} (kx : q_K g x = 11) (km : q_K g m = 12) (ko : q_K g o = 14) (ho : q_N g o = 1) (hin : ∀ v : Int32, v ∈ [1, 2, 3, 4, 5] → vp_in (i + v) (D.2 102 1)) {b b2 : Int32} {δ1 δ2 : dp} (h1 : D_X11_feed N g x (sc D (i + 1)) (sc D (i + 2)) (sc D (i + 3)) (sc D (i + 4)) (sc D (i + 5)) δ = some (b, δ1)) (h2 : D_X12_feed N g m (sc D (i + 1)) (sc D (i + 2)) (sc D (i + 3)) (sc D (i + 4)) (sc D (i + 5)) δ1 = some (b2, δ2)) (K : AW l D cy m_L_law d rc rs P X 1673 (lv0 D x m o i) [] (g, δ2)) : AW l D cy m_L_law d (rc + 3) (rs + 18) P X 196 (lv0 D x m o i) [] (g, δ) := by
  refine a_wk (rc' := rc + 3) (rs' := rs + 18) (by omega) (by omega) ?_
  refine a_aload_n 3 1 (μ := m_L_law) (pc := 196) dL_law_196 rfl rfl ?_
  refine l_arg (v := 1) 4 0 197 dL_law_197 dL_law_198 dL_law_200 dL_law_201 dL_law_202 rfl rfl (by decide) (hin 1 (by decide)) ?_
  refine l_arg (v := 2) 4 0 203 dL_law_203 dL_law_204 dL_law_206 dL_law_207 dL_law_208 rfl rfl (by decide) (hin 2 (by decide)) ?_
  refine l_arg (v := 3) 4 0 209 dL_law_209 dL_law_210 dL_law_212 dL_law_213 dL_law_214 rfl rfl (by decide) (hin 3 (by decide)) ?_
  refine l_arg (v := 4) 4 0 215 dL_law_215 dL_law_216 dL_law_218 dL_law_219 dL_law_220 rfl rfl (by decide) (hin 4 (by decide)) ?_
  refine l_arg (v := 5) 4 0 221 dL_law_221 dL_law_222 dL_law_224 dL_law_225 dL_law_226 rfl rfl (by decide) (hin 5 (by decide)) ?_
  refine a_callV (h := (g, δ)) (rc' := rc) (rs' := rs) (As := [.int (sc D (i + 1)), .int (sc D (i + 2)), .int (sc D (i + 3)), .int (sc D (i + 4)), .int (sc D (i + 5))]) (rest := []) (μ := m_L_law) (pc := 227) dL_law_227 cv_L_112 rfl kx (by decide) rfl (Nat.le_of_ble_eq_true rfl) (d' := d - 1) (by omega) (by omega) (by omega) (c_X11_feed (N := N) wt hl (d := d - 1) (by omega) kx (b, δ1) h1 _ _ ?_)
  show AW _ _ _ _ _ _ _ _ _ (227 + 3) _ [.int b] (g, δ1)
  refine a_pop (μ := m_L_law) (pc := 230) dL_law_230 rfl ?_
  refine a_aload_n 2 2 (μ := m_L_law) (pc := 231) dL_law_231 rfl rfl ?_
  refine l_arg (v := 1) 4 0 232 dL_law_232 dL_law_233 dL_law_235 dL_law_236 dL_law_237 rfl rfl (by decide) (hin 1 (by decide)) ?_
  refine l_arg (v := 2) 4 0 238 dL_law_238 dL_law_239 dL_law_241 dL_law_242 dL_law_243 rfl rfl (by decide) (hin 2 (by decide)) ?_
  refine l_arg (v := 3) 4 0 244 dL_law_244 dL_law_245 dL_law_247 dL_law_248 dL_law_249 rfl rfl (by decide) (hin 3 (by decide)) ?_
  refine l_arg (v := 4) 4 0 250 dL_law_250 dL_law_251 dL_law_253 dL_law_254 dL_law_255 rfl rfl (by decide) (hin 4 (by decide)) ?_
  refine l_arg (v := 5) 4 0 256 dL_law_256 dL_law_257 dL_law_259 dL_law_260 dL_law_261 rfl rfl (by decide) (hin 5 (by decide)) ?_
  refine a_callV (h := (g, δ1)) (rc' := rc) (rs' := rs) (As := [.int (sc D (i + 1)), .int (sc D (i + 2)), .int (sc D (i + 3)), .int (sc D (i + 4)), .int (sc D (i + 5))]) (rest := []) (μ := m_L_law) (pc := 262) dL_law_262 cv_L_115 rfl km (by decide) rfl (Nat.le_of_ble_eq_true rfl) (d' := d - 1) (by omega) (by omega) (by omega) (c_X12_feed (N := N) wt hl (d := d - 1) (by omega) km (b2, δ2) h2 _ _ ?_)
  show AW _ _ _ _ _ _ _ _ _ (262 + 3) _ [.int b2] (g, δ2)
  refine a_pop (μ := m_L_law) (pc := 265) dL_law_265 rfl ?_
  refine a_goto 1673 (μ := m_L_law) (pc := 266) dL_law_266 (by decide) ?_
  exact K
set_option maxHeartbeats 4000000 in
theorem lw_1 {l : Launch} {D : va_G} {cy : Nat → ClassId} {N d rc rs : Nat} {P : Option Value → hp → Prop} {X : String → hp → Prop} {g : gp} (wt : WT g) (hl : l.stackTraces = false) (hd : 91 ≤ d) {x m o : Nat} {i : Int32} {δ : dp} (kx : q_K g x = 11) (km : q_K g m = 12) (ko : q_K g o = 14) (ho : q_N g o = 1) (hin : ∀ v : Int32, v ∈ [1, 2, 3, 4, 5] → vp_in (i + v) (D.2 102 1)) {kk b : Int32} {δ1 δ2 : dp} (h1 : D_L_shape N g x (sc D (i + 1)) o δ = some (kk, δ1)) (h2 : D_X12_shape N g m (sc D (i + 1)) δ1 = some (b, δ2)) (K : AW l D cy m_L_law d rc rs P X 1673 (lv0 D x m o i) [] (g, δ2)) : AW l D cy m_L_law d (rc + 3) (rs + 18) P X 269 (lv0 D x m o i) [] (g, δ) := by
  refine a_wk (rc' := rc + 3) (rs' := rs + 18) (by omega) (by omega) ?_
  refine a_aload_n 3 1 (μ := m_L_law) (pc := 269) dL_law_269 rfl rfl ?_
  refine l_arg (v := 1) 4 0 270 dL_law_270 dL_law_271 dL_law_273 dL_law_274 dL_law_275 rfl rfl (by decide) (hin 1 (by decide)) ?_
  refine a_aload_n 1 3 (μ := m_L_law) (pc := 276) dL_law_276 rfl rfl ?_
  refine a_callH (hh := hh_shape) (h := (g, δ)) (rc' := rc) (rs' := rs) (mc' := 1) (ms' := 6) (As := [.ref x, .int (sc D (i + 1)), .ref o]) (rest := []) (μ := m_L_law) (pc := 277) dL_law_277 ch_116 rfl (Nat.le_of_ble_eq_true rfl) (d' := d - 1) (by omega) (by omega) (by omega) (c_L_shape (N := N) wt hl (d := d - 1) (by omega) kx ko (kk, δ1) h1 ?_)
  show AW _ _ _ _ _ _ _ _ _ (277 + 3) _ [.int kk] (g, δ1)
  refine a_istore ((5, .int kk) :: lv0 D x m o i) (μ := m_L_law) (pc := 280) dL_law_280 (by decide) rfl ?_
  refine a_aload_n 3 2 (μ := m_L_law) (pc := 282) dL_law_282 rfl rfl ?_
  refine l_arg (v := 1) 5 1 283 dL_law_283 dL_law_284 dL_law_286 dL_law_287 dL_law_288 rfl rfl (by decide) (hin 1 (by decide)) ?_
  refine a_callV (h := (g, δ1)) (rc' := rc) (rs' := rs) (As := [.int (sc D (i + 1))]) (rest := []) (μ := m_L_law) (pc := 289) dL_law_289 cv_L_121 rfl km (by decide) rfl (Nat.le_of_ble_eq_true rfl) (d' := d - 1) (by omega) (by omega) (by omega) (c_X12_shape (N := N) wt hl (d := d - 1) (by omega) km (b, δ2) h2 _ _ ?_)
  show AW _ _ _ _ _ _ _ _ _ (289 + 3) _ [.int b] (g, δ2)
  refine a_istore ((6, .int b) :: (5, .int kk) :: lv0 D x m o i) (μ := m_L_law) (pc := 292) dL_law_292 (by decide) rfl ?_
  refine a_goto 1673 (μ := m_L_law) (pc := 294) dL_law_294 (by decide) ?_
  exact a_lv [2, 3, 4, 5, 6] rfl K
set_option maxHeartbeats 4000000 in
theorem lw_2 {l : Launch} {D : va_G} {cy : Nat → ClassId} {N d rc rs : Nat} {P : Option Value → hp → Prop} {X : String → hp → Prop} {g : gp} (wt : WT g) (hl : l.stackTraces = false) (hd : 91 ≤ d) {x m o : Nat} {i : Int32} {δ : dp} (kx : q_K g x = 11) (km : q_K g m = 12) (ko : q_K g o = 14) (ho : q_N g o = 1) (hin : ∀ v : Int32, v ∈ [1, 2, 3, 4, 5] → vp_in (i + v) (D.2 102 1)) {kk b : Int32} {δ1 δ2 : dp} (h1 : D_L_thief N g x (sc D (i + 1)) o δ = some (kk, δ1)) (h2 : D_X12_thief N g m (sc D (i + 1)) δ1 = some (b, δ2)) (K : AW l D cy m_L_law d rc rs P X 1673 (lv0 D x m o i) [] (g, δ2)) : AW l D cy m_L_law d (rc + 3) (rs + 18) P X 297 (lv0 D x m o i) [] (g, δ) := by
  refine a_wk (rc' := rc + 3) (rs' := rs + 18) (by omega) (by omega) ?_
  refine a_aload_n 3 1 (μ := m_L_law) (pc := 297) dL_law_297 rfl rfl ?_
  refine l_arg (v := 1) 4 0 298 dL_law_298 dL_law_299 dL_law_301 dL_law_302 dL_law_303 rfl rfl (by decide) (hin 1 (by decide)) ?_
  refine a_aload_n 1 3 (μ := m_L_law) (pc := 304) dL_law_304 rfl rfl ?_
  refine a_callH (hh := hh_thief) (h := (g, δ)) (rc' := rc) (rs' := rs) (mc' := 1) (ms' := 6) (As := [.ref x, .int (sc D (i + 1)), .ref o]) (rest := []) (μ := m_L_law) (pc := 305) dL_law_305 ch_122 rfl (Nat.le_of_ble_eq_true rfl) (d' := d - 1) (by omega) (by omega) (by omega) (c_L_thief (N := N) wt hl (d := d - 1) (by omega) kx ko (kk, δ1) h1 ?_)
  show AW _ _ _ _ _ _ _ _ _ (305 + 3) _ [.int kk] (g, δ1)
  refine a_istore ((5, .int kk) :: lv0 D x m o i) (μ := m_L_law) (pc := 308) dL_law_308 (by decide) rfl ?_
  refine a_aload_n 3 2 (μ := m_L_law) (pc := 310) dL_law_310 rfl rfl ?_
  refine l_arg (v := 1) 5 1 311 dL_law_311 dL_law_312 dL_law_314 dL_law_315 dL_law_316 rfl rfl (by decide) (hin 1 (by decide)) ?_
  refine a_callV (h := (g, δ1)) (rc' := rc) (rs' := rs) (As := [.int (sc D (i + 1))]) (rest := []) (μ := m_L_law) (pc := 317) dL_law_317 cv_L_124 rfl km (by decide) rfl (Nat.le_of_ble_eq_true rfl) (d' := d - 1) (by omega) (by omega) (by omega) (c_X12_thief (N := N) wt hl (d := d - 1) (by omega) km (b, δ2) h2 _ _ ?_)
  show AW _ _ _ _ _ _ _ _ _ (317 + 3) _ [.int b] (g, δ2)
  refine a_istore ((6, .int b) :: (5, .int kk) :: lv0 D x m o i) (μ := m_L_law) (pc := 320) dL_law_320 (by decide) rfl ?_
  refine a_goto 1673 (μ := m_L_law) (pc := 322) dL_law_322 (by decide) ?_
  exact a_lv [2, 3, 4, 5, 6] rfl K
set_option maxHeartbeats 4000000 in
theorem lw_3 {l : Launch} {D : va_G} {cy : Nat → ClassId} {N d rc rs : Nat} {P : Option Value → hp → Prop} {X : String → hp → Prop} {g : gp} (wt : WT g) (hl : l.stackTraces = false) (hd : 91 ≤ d) {x m o : Nat} {i : Int32} {δ : dp} (kx : q_K g x = 11) (km : q_K g m = 12) (ko : q_K g o = 14) (ho : q_N g o = 1) (hin : ∀ v : Int32, v ∈ [1, 2, 3, 4, 5] → vp_in (i + v) (D.2 102 1)) {b b2 : Int32} {δ1 δ2 : dp} (h1 : D_X11_fault N g x  δ = some (b, δ1)) (h2 : D_X12_fault N g m  δ1 = some (b2, δ2)) (K : AW l D cy m_L_law d rc rs P X 1673 (lv0 D x m o i) [] (g, δ2)) : AW l D cy m_L_law d (rc + 3) (rs + 18) P X 325 (lv0 D x m o i) [] (g, δ) := by
  refine a_wk (rc' := rc + 3) (rs' := rs + 18) (by omega) (by omega) ?_
  refine a_aload_n 3 1 (μ := m_L_law) (pc := 325) dL_law_325 rfl rfl ?_
  refine a_callV (h := (g, δ)) (rc' := rc) (rs' := rs) (As := []) (rest := []) (μ := m_L_law) (pc := 326) dL_law_326 cv_L_125 rfl kx (by decide) rfl (Nat.le_of_ble_eq_true rfl) (d' := d - 1) (by omega) (by omega) (by omega) (c_X11_fault (N := N) wt hl (d := d - 1) (by omega) kx (b, δ1) h1 _ _ ?_)
  show AW _ _ _ _ _ _ _ _ _ (326 + 3) _ [.int b] (g, δ1)
  refine a_pop (μ := m_L_law) (pc := 329) dL_law_329 rfl ?_
  refine a_aload_n 2 2 (μ := m_L_law) (pc := 330) dL_law_330 rfl rfl ?_
  refine a_callV (h := (g, δ1)) (rc' := rc) (rs' := rs) (As := []) (rest := []) (μ := m_L_law) (pc := 331) dL_law_331 cv_L_129 rfl km (by decide) rfl (Nat.le_of_ble_eq_true rfl) (d' := d - 1) (by omega) (by omega) (by omega) (c_X12_fault (N := N) wt hl (d := d - 1) (by omega) km (b2, δ2) h2 _ _ ?_)
  show AW _ _ _ _ _ _ _ _ _ (331 + 3) _ [.int b2] (g, δ2)
  refine a_pop (μ := m_L_law) (pc := 334) dL_law_334 rfl ?_
  refine a_goto 1673 (μ := m_L_law) (pc := 335) dL_law_335 (by decide) ?_
  exact K
set_option maxHeartbeats 4000000 in
theorem lw_4 {l : Launch} {D : va_G} {cy : Nat → ClassId} {N d rc rs : Nat} {P : Option Value → hp → Prop} {X : String → hp → Prop} {g : gp} (wt : WT g) (hl : l.stackTraces = false) (hd : 91 ≤ d) {x m o : Nat} {i : Int32} {δ : dp} (kx : q_K g x = 11) (km : q_K g m = 12) (ko : q_K g o = 14) (ho : q_N g o = 1) (hin : ∀ v : Int32, v ∈ [1, 2, 3, 4, 5] → vp_in (i + v) (D.2 102 1)) {kk b : Int32} {δ1 δ2 : dp} (h1 : D_L_told N g x (sc D (i + 1)) o δ = some (kk, δ1)) (h2 : D_X12_told N g m (sc D (i + 1)) δ1 = some (b, δ2)) (K : AW l D cy m_L_law d rc rs P X 1673 (lv0 D x m o i) [] (g, δ2)) : AW l D cy m_L_law d (rc + 3) (rs + 18) P X 338 (lv0 D x m o i) [] (g, δ) := by
  refine a_wk (rc' := rc + 3) (rs' := rs + 18) (by omega) (by omega) ?_
  refine a_aload_n 3 1 (μ := m_L_law) (pc := 338) dL_law_338 rfl rfl ?_
  refine l_arg (v := 1) 4 0 339 dL_law_339 dL_law_340 dL_law_342 dL_law_343 dL_law_344 rfl rfl (by decide) (hin 1 (by decide)) ?_
  refine a_aload_n 1 3 (μ := m_L_law) (pc := 345) dL_law_345 rfl rfl ?_
  refine a_callH (hh := hh_told) (h := (g, δ)) (rc' := rc) (rs' := rs) (mc' := 1) (ms' := 6) (As := [.ref x, .int (sc D (i + 1)), .ref o]) (rest := []) (μ := m_L_law) (pc := 346) dL_law_346 ch_130 rfl (Nat.le_of_ble_eq_true rfl) (d' := d - 1) (by omega) (by omega) (by omega) (c_L_told (N := N) wt hl (d := d - 1) (by omega) kx ko (kk, δ1) h1 ?_)
  show AW _ _ _ _ _ _ _ _ _ (346 + 3) _ [.int kk] (g, δ1)
  refine a_istore ((5, .int kk) :: lv0 D x m o i) (μ := m_L_law) (pc := 349) dL_law_349 (by decide) rfl ?_
  refine a_aload_n 3 2 (μ := m_L_law) (pc := 351) dL_law_351 rfl rfl ?_
  refine l_arg (v := 1) 5 1 352 dL_law_352 dL_law_353 dL_law_355 dL_law_356 dL_law_357 rfl rfl (by decide) (hin 1 (by decide)) ?_
  refine a_callV (h := (g, δ1)) (rc' := rc) (rs' := rs) (As := [.int (sc D (i + 1))]) (rest := []) (μ := m_L_law) (pc := 358) dL_law_358 cv_L_132 rfl km (by decide) rfl (Nat.le_of_ble_eq_true rfl) (d' := d - 1) (by omega) (by omega) (by omega) (c_X12_told (N := N) wt hl (d := d - 1) (by omega) km (b, δ2) h2 _ _ ?_)
  show AW _ _ _ _ _ _ _ _ _ (358 + 3) _ [.int b] (g, δ2)
  refine a_istore ((6, .int b) :: (5, .int kk) :: lv0 D x m o i) (μ := m_L_law) (pc := 361) dL_law_361 (by decide) rfl ?_
  refine a_goto 1673 (μ := m_L_law) (pc := 363) dL_law_363 (by decide) ?_
  exact a_lv [2, 3, 4, 5, 6] rfl K
set_option maxHeartbeats 4000000 in
theorem lw_5 {l : Launch} {D : va_G} {cy : Nat → ClassId} {N d rc rs : Nat} {P : Option Value → hp → Prop} {X : String → hp → Prop} {g : gp} (wt : WT g) (hl : l.stackTraces = false) (hd : 91 ≤ d) {x m o : Nat} {i : Int32} {δ : dp} (kx : q_K g x = 11) (km : q_K g m = 12) (ko : q_K g o = 14) (ho : q_N g o = 1) (hin : ∀ v : Int32, v ∈ [1, 2, 3, 4, 5] → vp_in (i + v) (D.2 102 1)) {kk b : Int32} {δ1 δ2 : dp} (h1 : D_L_put N g x (sc D (i + 1)) (sc D (i + 2)) o δ = some (kk, δ1)) (h2 : D_X12_put N g m (sc D (i + 1)) (sc D (i + 2)) δ1 = some (b, δ2)) (K : AW l D cy m_L_law d rc rs P X 1673 (lv0 D x m o i) [] (g, δ2)) : AW l D cy m_L_law d (rc + 3) (rs + 18) P X 366 (lv0 D x m o i) [] (g, δ) := by
  refine a_wk (rc' := rc + 3) (rs' := rs + 18) (by omega) (by omega) ?_
  refine a_aload_n 3 1 (μ := m_L_law) (pc := 366) dL_law_366 rfl rfl ?_
  refine l_arg (v := 1) 4 0 367 dL_law_367 dL_law_368 dL_law_370 dL_law_371 dL_law_372 rfl rfl (by decide) (hin 1 (by decide)) ?_
  refine l_arg (v := 2) 4 0 373 dL_law_373 dL_law_374 dL_law_376 dL_law_377 dL_law_378 rfl rfl (by decide) (hin 2 (by decide)) ?_
  refine a_aload_n 1 3 (μ := m_L_law) (pc := 379) dL_law_379 rfl rfl ?_
  refine a_callH (hh := hh_put) (h := (g, δ)) (rc' := rc) (rs' := rs) (mc' := 2) (ms' := 12) (As := [.ref x, .int (sc D (i + 1)), .int (sc D (i + 2)), .ref o]) (rest := []) (μ := m_L_law) (pc := 380) dL_law_380 ch_133 rfl (Nat.le_of_ble_eq_true rfl) (d' := d - 1) (by omega) (by omega) (by omega) (c_L_put (N := N) wt hl (d := d - 1) (by omega) kx ko (kk, δ1) h1 ?_)
  show AW _ _ _ _ _ _ _ _ _ (380 + 3) _ [.int kk] (g, δ1)
  refine a_istore ((5, .int kk) :: lv0 D x m o i) (μ := m_L_law) (pc := 383) dL_law_383 (by decide) rfl ?_
  refine a_aload_n 3 2 (μ := m_L_law) (pc := 385) dL_law_385 rfl rfl ?_
  refine l_arg (v := 1) 5 1 386 dL_law_386 dL_law_387 dL_law_389 dL_law_390 dL_law_391 rfl rfl (by decide) (hin 1 (by decide)) ?_
  refine l_arg (v := 2) 5 1 392 dL_law_392 dL_law_393 dL_law_395 dL_law_396 dL_law_397 rfl rfl (by decide) (hin 2 (by decide)) ?_
  refine a_callV (h := (g, δ1)) (rc' := rc) (rs' := rs) (As := [.int (sc D (i + 1)), .int (sc D (i + 2))]) (rest := []) (μ := m_L_law) (pc := 398) dL_law_398 cv_L_136 rfl km (by decide) rfl (Nat.le_of_ble_eq_true rfl) (d' := d - 1) (by omega) (by omega) (by omega) (c_X12_put (N := N) wt hl (d := d - 1) (by omega) km (b, δ2) h2 _ _ ?_)
  show AW _ _ _ _ _ _ _ _ _ (398 + 3) _ [.int b] (g, δ2)
  refine a_istore ((6, .int b) :: (5, .int kk) :: lv0 D x m o i) (μ := m_L_law) (pc := 401) dL_law_401 (by decide) rfl ?_
  refine a_goto 1673 (μ := m_L_law) (pc := 403) dL_law_403 (by decide) ?_
  exact a_lv [2, 3, 4, 5, 6] rfl K
set_option maxHeartbeats 4000000 in
theorem lw_6 {l : Launch} {D : va_G} {cy : Nat → ClassId} {N d rc rs : Nat} {P : Option Value → hp → Prop} {X : String → hp → Prop} {g : gp} (wt : WT g) (hl : l.stackTraces = false) (hd : 91 ≤ d) {x m o : Nat} {i : Int32} {δ : dp} (kx : q_K g x = 11) (km : q_K g m = 12) (ko : q_K g o = 14) (ho : q_N g o = 1) (hin : ∀ v : Int32, v ∈ [1, 2, 3, 4, 5] → vp_in (i + v) (D.2 102 1)) {kk b : Int32} {δ1 δ2 : dp} (h1 : D_L_drop N g x (sc D (i + 1)) (sc D (i + 2)) o δ = some (kk, δ1)) (h2 : D_X12_drop N g m (sc D (i + 1)) (sc D (i + 2)) δ1 = some (b, δ2)) (K : AW l D cy m_L_law d rc rs P X 1673 (lv0 D x m o i) [] (g, δ2)) : AW l D cy m_L_law d (rc + 3) (rs + 18) P X 406 (lv0 D x m o i) [] (g, δ) := by
  refine a_wk (rc' := rc + 3) (rs' := rs + 18) (by omega) (by omega) ?_
  refine a_aload_n 3 1 (μ := m_L_law) (pc := 406) dL_law_406 rfl rfl ?_
  refine l_arg (v := 1) 4 0 407 dL_law_407 dL_law_408 dL_law_410 dL_law_411 dL_law_412 rfl rfl (by decide) (hin 1 (by decide)) ?_
  refine l_arg (v := 2) 4 0 413 dL_law_413 dL_law_414 dL_law_416 dL_law_417 dL_law_418 rfl rfl (by decide) (hin 2 (by decide)) ?_
  refine a_aload_n 1 3 (μ := m_L_law) (pc := 419) dL_law_419 rfl rfl ?_
  refine a_callH (hh := hh_drop) (h := (g, δ)) (rc' := rc) (rs' := rs) (mc' := 2) (ms' := 12) (As := [.ref x, .int (sc D (i + 1)), .int (sc D (i + 2)), .ref o]) (rest := []) (μ := m_L_law) (pc := 420) dL_law_420 ch_137 rfl (Nat.le_of_ble_eq_true rfl) (d' := d - 1) (by omega) (by omega) (by omega) (c_L_drop (N := N) wt hl (d := d - 1) (by omega) kx ko (kk, δ1) h1 ?_)
  show AW _ _ _ _ _ _ _ _ _ (420 + 3) _ [.int kk] (g, δ1)
  refine a_istore ((5, .int kk) :: lv0 D x m o i) (μ := m_L_law) (pc := 423) dL_law_423 (by decide) rfl ?_
  refine a_aload_n 3 2 (μ := m_L_law) (pc := 425) dL_law_425 rfl rfl ?_
  refine l_arg (v := 1) 5 1 426 dL_law_426 dL_law_427 dL_law_429 dL_law_430 dL_law_431 rfl rfl (by decide) (hin 1 (by decide)) ?_
  refine l_arg (v := 2) 5 1 432 dL_law_432 dL_law_433 dL_law_435 dL_law_436 dL_law_437 rfl rfl (by decide) (hin 2 (by decide)) ?_
  refine a_callV (h := (g, δ1)) (rc' := rc) (rs' := rs) (As := [.int (sc D (i + 1)), .int (sc D (i + 2))]) (rest := []) (μ := m_L_law) (pc := 438) dL_law_438 cv_L_139 rfl km (by decide) rfl (Nat.le_of_ble_eq_true rfl) (d' := d - 1) (by omega) (by omega) (by omega) (c_X12_drop (N := N) wt hl (d := d - 1) (by omega) km (b, δ2) h2 _ _ ?_)
  show AW _ _ _ _ _ _ _ _ _ (438 + 3) _ [.int b] (g, δ2)
  refine a_istore ((6, .int b) :: (5, .int kk) :: lv0 D x m o i) (μ := m_L_law) (pc := 441) dL_law_441 (by decide) rfl ?_
  refine a_goto 1673 (μ := m_L_law) (pc := 443) dL_law_443 (by decide) ?_
  exact a_lv [2, 3, 4, 5, 6] rfl K
set_option maxHeartbeats 4000000 in
theorem lw_7 {l : Launch} {D : va_G} {cy : Nat → ClassId} {N d rc rs : Nat} {P : Option Value → hp → Prop} {X : String → hp → Prop} {g : gp} (wt : WT g) (hl : l.stackTraces = false) (hd : 91 ≤ d) {x m o : Nat} {i : Int32} {δ : dp} (kx : q_K g x = 11) (km : q_K g m = 12) (ko : q_K g o = 14) (ho : q_N g o = 1) (hin : ∀ v : Int32, v ∈ [1, 2, 3, 4, 5] → vp_in (i + v) (D.2 102 1)) {kk b : Int32} {δ1 δ2 : dp} (h1 : D_L_has N g x (sc D (i + 1)) (sc D (i + 2)) o δ = some (kk, δ1)) (h2 : D_X12_has N g m (sc D (i + 1)) (sc D (i + 2)) δ1 = some (b, δ2)) (h3 : q_I δ2 12 0 m = kk) (h4 : kk = 0 → q_J δ2 o 0 = (if b = 0 then 0 else 1)) (K : AW l D cy m_L_law d rc rs P X 1673 (lv0 D x m o i) [] (g, δ2)) : AW l D cy m_L_law d (rc + 3) (rs + 18) P X 446 (lv0 D x m o i) [] (g, δ) := by
  refine a_wk (rc' := rc + 3) (rs' := rs + 18) (by omega) (by omega) ?_
  refine a_aload_n 3 1 (μ := m_L_law) (pc := 446) dL_law_446 rfl rfl ?_
  refine l_arg (v := 1) 4 0 447 dL_law_447 dL_law_448 dL_law_450 dL_law_451 dL_law_452 rfl rfl (by decide) (hin 1 (by decide)) ?_
  refine l_arg (v := 2) 4 0 453 dL_law_453 dL_law_454 dL_law_456 dL_law_457 dL_law_458 rfl rfl (by decide) (hin 2 (by decide)) ?_
  refine a_aload_n 1 3 (μ := m_L_law) (pc := 459) dL_law_459 rfl rfl ?_
  refine a_callH (hh := hh_has) (h := (g, δ)) (rc' := rc) (rs' := rs) (mc' := 2) (ms' := 12) (As := [.ref x, .int (sc D (i + 1)), .int (sc D (i + 2)), .ref o]) (rest := []) (μ := m_L_law) (pc := 460) dL_law_460 ch_140 rfl (Nat.le_of_ble_eq_true rfl) (d' := d - 1) (by omega) (by omega) (by omega) (c_L_has (N := N) wt hl (d := d - 1) (by omega) kx ko (kk, δ1) h1 ?_)
  show AW _ _ _ _ _ _ _ _ _ (460 + 3) _ [.int kk] (g, δ1)
  refine a_istore ((5, .int kk) :: lv0 D x m o i) (μ := m_L_law) (pc := 463) dL_law_463 (by decide) rfl ?_
  refine a_aload_n 3 2 (μ := m_L_law) (pc := 465) dL_law_465 rfl rfl ?_
  refine l_arg (v := 1) 5 1 466 dL_law_466 dL_law_467 dL_law_469 dL_law_470 dL_law_471 rfl rfl (by decide) (hin 1 (by decide)) ?_
  refine l_arg (v := 2) 5 1 472 dL_law_472 dL_law_473 dL_law_475 dL_law_476 dL_law_477 rfl rfl (by decide) (hin 2 (by decide)) ?_
  refine a_callV (h := (g, δ1)) (rc' := rc) (rs' := rs) (As := [.int (sc D (i + 1)), .int (sc D (i + 2))]) (rest := []) (μ := m_L_law) (pc := 478) dL_law_478 cv_L_142 rfl km (by decide) rfl (Nat.le_of_ble_eq_true rfl) (d' := d - 1) (by omega) (by omega) (by omega) (c_X12_has (N := N) wt hl (d := d - 1) (by omega) km (b, δ2) h2 _ _ ?_)
  show AW _ _ _ _ _ _ _ _ _ (478 + 3) _ [.int b] (g, δ2)
  refine a_istore ((6, .int b) :: (5, .int kk) :: lv0 D x m o i) (μ := m_L_law) (pc := 481) dL_law_481 (by decide) rfl ?_
  refine a_aload_n 4 2 (μ := m_L_law) (pc := 483) dL_law_483 rfl rfl ?_
  refine a_callV (h := (g, δ2)) (rc' := rc) (rs' := rs) (As := []) (rest := []) (μ := m_L_law) (pc := 484) dL_law_484 cv_L_143 rfl km (by decide) rfl (Nat.le_of_ble_eq_true rfl) (d' := d - 1) (by omega) (by omega) (by omega) (c_X12_thrown (N := N) wt hl (d := d - 1) (by omega) km (q_I δ2 12 0 m, δ2) rfl _ _ ?_)
  show AW _ _ _ _ _ _ _ _ _ (484 + 3) _ [.int (q_I δ2 12 0 m)] (g, δ2)
  refine a_iload 1 (μ := m_L_law) (pc := 487) dL_law_487 rfl ?_
  refine a_icmp_eq 494 (μ := m_L_law) (pc := 489) dL_law_489 (by decide) (fun _ => ?_) (fun z => absurd h3 z)
  refine a_iload 1 (μ := m_L_law) (pc := 494) dL_law_494 rfl ?_
  refine a_if_ne 518 (μ := m_L_law) (pc := 496) dL_law_496 (by decide) (fun _ => ?_) (fun z => ?_)
  · refine a_goto 1673 (μ := m_L_law) (pc := 518) dL_law_518 (by decide) ?_
    exact a_lv [2, 3, 4, 5, 6] rfl K
  · refine a_aload_n 3 3 (μ := m_L_law) (pc := 499) dL_law_499 rfl rfl ?_
    refine a_iconst (v := 0) (μ := m_L_law) (pc := 500) dL_law_500 (by decide) ?_
    refine a_lald (μ := m_L_law) (pc := 501) dL_law_501 ko (vp_n (by rw [ho]; decide)) ?_
    rw [z_nat]
    refine a_iload 0 (μ := m_L_law) (pc := 502) dL_law_502 rfl ?_
    refine a_if_eq 511 (μ := m_L_law) (pc := 504) dL_law_504 (by decide) (fun zb => ?_) (fun zb => ?_)
    · refine a_lconst (v := 0) (μ := m_L_law) (pc := 511) dL_law_511 (by decide) ?_
      refine a_lcmp (μ := m_L_law) (pc := 512) dL_law_512 ?_
      rw [h4 z, if_pos zb, lg_self]
      refine a_if_eq 518 (μ := m_L_law) (pc := 513) dL_law_513 (by decide) (fun _ => ?_) (fun z => absurd rfl z)
      refine a_goto 1673 (μ := m_L_law) (pc := 518) dL_law_518 (by decide) ?_
      exact a_lv [2, 3, 4, 5, 6] rfl K
    · refine a_lconst (v := 1) (μ := m_L_law) (pc := 507) dL_law_507 (by decide) ?_
      refine a_goto 512 (μ := m_L_law) (pc := 508) dL_law_508 (by decide) ?_
      refine a_lcmp (μ := m_L_law) (pc := 512) dL_law_512 ?_
      rw [h4 z, if_neg zb, lg_self]
      refine a_if_eq 518 (μ := m_L_law) (pc := 513) dL_law_513 (by decide) (fun _ => ?_) (fun z => absurd rfl z)
      refine a_goto 1673 (μ := m_L_law) (pc := 518) dL_law_518 (by decide) ?_
      exact a_lv [2, 3, 4, 5, 6] rfl K
set_option maxHeartbeats 4000000 in
theorem lw_8 {l : Launch} {D : va_G} {cy : Nat → ClassId} {N d rc rs : Nat} {P : Option Value → hp → Prop} {X : String → hp → Prop} {g : gp} (wt : WT g) (hl : l.stackTraces = false) (hd : 91 ≤ d) {x m o : Nat} {i : Int32} {δ : dp} (kx : q_K g x = 11) (km : q_K g m = 12) (ko : q_K g o = 14) (ho : q_N g o = 1) (hin : ∀ v : Int32, v ∈ [1, 2, 3, 4, 5] → vp_in (i + v) (D.2 102 1)) {kk b : Int32} {δ1 δ2 : dp} (h1 : D_L_of N g x (sc D (i + 1)) (sc D (i + 2)) o δ = some (kk, δ1)) (h2 : D_X12_of_ N g m (sc D (i + 1)) (sc D (i + 2)) δ1 = some (b, δ2)) (K : AW l D cy m_L_law d rc rs P X 1673 (lv0 D x m o i) [] (g, δ2)) : AW l D cy m_L_law d (rc + 3) (rs + 18) P X 521 (lv0 D x m o i) [] (g, δ) := by
  refine a_wk (rc' := rc + 3) (rs' := rs + 18) (by omega) (by omega) ?_
  refine a_aload_n 3 1 (μ := m_L_law) (pc := 521) dL_law_521 rfl rfl ?_
  refine l_arg (v := 1) 4 0 522 dL_law_522 dL_law_523 dL_law_525 dL_law_526 dL_law_527 rfl rfl (by decide) (hin 1 (by decide)) ?_
  refine l_arg (v := 2) 4 0 528 dL_law_528 dL_law_529 dL_law_531 dL_law_532 dL_law_533 rfl rfl (by decide) (hin 2 (by decide)) ?_
  refine a_aload_n 1 3 (μ := m_L_law) (pc := 534) dL_law_534 rfl rfl ?_
  refine a_callH (hh := hh_of) (h := (g, δ)) (rc' := rc) (rs' := rs) (mc' := 2) (ms' := 12) (As := [.ref x, .int (sc D (i + 1)), .int (sc D (i + 2)), .ref o]) (rest := []) (μ := m_L_law) (pc := 535) dL_law_535 ch_146 rfl (Nat.le_of_ble_eq_true rfl) (d' := d - 1) (by omega) (by omega) (by omega) (c_L_of (N := N) wt hl (d := d - 1) (by omega) kx ko (kk, δ1) h1 ?_)
  show AW _ _ _ _ _ _ _ _ _ (535 + 3) _ [.int kk] (g, δ1)
  refine a_istore ((5, .int kk) :: lv0 D x m o i) (μ := m_L_law) (pc := 538) dL_law_538 (by decide) rfl ?_
  refine a_aload_n 3 2 (μ := m_L_law) (pc := 540) dL_law_540 rfl rfl ?_
  refine l_arg (v := 1) 5 1 541 dL_law_541 dL_law_542 dL_law_544 dL_law_545 dL_law_546 rfl rfl (by decide) (hin 1 (by decide)) ?_
  refine l_arg (v := 2) 5 1 547 dL_law_547 dL_law_548 dL_law_550 dL_law_551 dL_law_552 rfl rfl (by decide) (hin 2 (by decide)) ?_
  refine a_callV (h := (g, δ1)) (rc' := rc) (rs' := rs) (As := [.int (sc D (i + 1)), .int (sc D (i + 2))]) (rest := []) (μ := m_L_law) (pc := 553) dL_law_553 cv_L_148 rfl km (by decide) rfl (Nat.le_of_ble_eq_true rfl) (d' := d - 1) (by omega) (by omega) (by omega) (c_X12_of_ (N := N) wt hl (d := d - 1) (by omega) km (b, δ2) h2 _ _ ?_)
  show AW _ _ _ _ _ _ _ _ _ (553 + 3) _ [.int b] (g, δ2)
  refine a_istore ((6, .int b) :: (5, .int kk) :: lv0 D x m o i) (μ := m_L_law) (pc := 556) dL_law_556 (by decide) rfl ?_
  refine a_goto 1673 (μ := m_L_law) (pc := 558) dL_law_558 (by decide) ?_
  exact a_lv [2, 3, 4, 5, 6] rfl K
set_option maxHeartbeats 4000000 in
theorem lw_9 {l : Launch} {D : va_G} {cy : Nat → ClassId} {N d rc rs : Nat} {P : Option Value → hp → Prop} {X : String → hp → Prop} {g : gp} (wt : WT g) (hl : l.stackTraces = false) (hd : 91 ≤ d) {x m o : Nat} {i : Int32} {δ : dp} (kx : q_K g x = 11) (km : q_K g m = 12) (ko : q_K g o = 14) (ho : q_N g o = 1) (hin : ∀ v : Int32, v ∈ [1, 2, 3, 4, 5] → vp_in (i + v) (D.2 102 1)) {kk b : Int32} {δ1 δ2 : dp} (h1 : D_L_next N g x (sc D (i + 1)) (sc D (i + 2)) o δ = some (kk, δ1)) (h2 : D_X12_next N g m (sc D (i + 1)) (sc D (i + 2)) δ1 = some (b, δ2)) (K : AW l D cy m_L_law d rc rs P X 1673 (lv0 D x m o i) [] (g, δ2)) : AW l D cy m_L_law d (rc + 3) (rs + 18) P X 561 (lv0 D x m o i) [] (g, δ) := by
  refine a_wk (rc' := rc + 3) (rs' := rs + 18) (by omega) (by omega) ?_
  refine a_aload_n 3 1 (μ := m_L_law) (pc := 561) dL_law_561 rfl rfl ?_
  refine l_arg (v := 1) 4 0 562 dL_law_562 dL_law_563 dL_law_565 dL_law_566 dL_law_567 rfl rfl (by decide) (hin 1 (by decide)) ?_
  refine l_arg (v := 2) 4 0 568 dL_law_568 dL_law_569 dL_law_571 dL_law_572 dL_law_573 rfl rfl (by decide) (hin 2 (by decide)) ?_
  refine a_aload_n 1 3 (μ := m_L_law) (pc := 574) dL_law_574 rfl rfl ?_
  refine a_callH (hh := hh_next) (h := (g, δ)) (rc' := rc) (rs' := rs) (mc' := 2) (ms' := 12) (As := [.ref x, .int (sc D (i + 1)), .int (sc D (i + 2)), .ref o]) (rest := []) (μ := m_L_law) (pc := 575) dL_law_575 ch_149 rfl (Nat.le_of_ble_eq_true rfl) (d' := d - 1) (by omega) (by omega) (by omega) (c_L_next (N := N) wt hl (d := d - 1) (by omega) kx ko (kk, δ1) h1 ?_)
  show AW _ _ _ _ _ _ _ _ _ (575 + 3) _ [.int kk] (g, δ1)
  refine a_istore ((5, .int kk) :: lv0 D x m o i) (μ := m_L_law) (pc := 578) dL_law_578 (by decide) rfl ?_
  refine a_aload_n 3 2 (μ := m_L_law) (pc := 580) dL_law_580 rfl rfl ?_
  refine l_arg (v := 1) 5 1 581 dL_law_581 dL_law_582 dL_law_584 dL_law_585 dL_law_586 rfl rfl (by decide) (hin 1 (by decide)) ?_
  refine l_arg (v := 2) 5 1 587 dL_law_587 dL_law_588 dL_law_590 dL_law_591 dL_law_592 rfl rfl (by decide) (hin 2 (by decide)) ?_
  refine a_callV (h := (g, δ1)) (rc' := rc) (rs' := rs) (As := [.int (sc D (i + 1)), .int (sc D (i + 2))]) (rest := []) (μ := m_L_law) (pc := 593) dL_law_593 cv_L_151 rfl km (by decide) rfl (Nat.le_of_ble_eq_true rfl) (d' := d - 1) (by omega) (by omega) (by omega) (c_X12_next (N := N) wt hl (d := d - 1) (by omega) km (b, δ2) h2 _ _ ?_)
  show AW _ _ _ _ _ _ _ _ _ (593 + 3) _ [.int b] (g, δ2)
  refine a_istore ((6, .int b) :: (5, .int kk) :: lv0 D x m o i) (μ := m_L_law) (pc := 596) dL_law_596 (by decide) rfl ?_
  refine a_goto 1673 (μ := m_L_law) (pc := 598) dL_law_598 (by decide) ?_
  exact a_lv [2, 3, 4, 5, 6] rfl K
set_option maxHeartbeats 4000000 in
theorem lw_10 {l : Launch} {D : va_G} {cy : Nat → ClassId} {N d rc rs : Nat} {P : Option Value → hp → Prop} {X : String → hp → Prop} {g : gp} (wt : WT g) (hl : l.stackTraces = false) (hd : 91 ≤ d) {x m o : Nat} {i : Int32} {δ : dp} (kx : q_K g x = 11) (km : q_K g m = 12) (ko : q_K g o = 14) (ho : q_N g o = 1) (hin : ∀ v : Int32, v ∈ [1, 2, 3, 4, 5] → vp_in (i + v) (D.2 102 1)) {kk b : Int32} {δ1 δ2 : dp} (h1 : D_L_before N g x (sc D (i + 1)) (sc D (i + 2)) o δ = some (kk, δ1)) (h2 : D_X12_before N g m (sc D (i + 1)) (sc D (i + 2)) δ1 = some (b, δ2)) (K : AW l D cy m_L_law d rc rs P X 1673 (lv0 D x m o i) [] (g, δ2)) : AW l D cy m_L_law d (rc + 3) (rs + 18) P X 601 (lv0 D x m o i) [] (g, δ) := by
  refine a_wk (rc' := rc + 3) (rs' := rs + 18) (by omega) (by omega) ?_
  refine a_aload_n 3 1 (μ := m_L_law) (pc := 601) dL_law_601 rfl rfl ?_
  refine l_arg (v := 1) 4 0 602 dL_law_602 dL_law_603 dL_law_605 dL_law_606 dL_law_607 rfl rfl (by decide) (hin 1 (by decide)) ?_
  refine l_arg (v := 2) 4 0 608 dL_law_608 dL_law_609 dL_law_611 dL_law_612 dL_law_613 rfl rfl (by decide) (hin 2 (by decide)) ?_
  refine a_aload_n 1 3 (μ := m_L_law) (pc := 614) dL_law_614 rfl rfl ?_
  refine a_callH (hh := hh_before) (h := (g, δ)) (rc' := rc) (rs' := rs) (mc' := 2) (ms' := 12) (As := [.ref x, .int (sc D (i + 1)), .int (sc D (i + 2)), .ref o]) (rest := []) (μ := m_L_law) (pc := 615) dL_law_615 ch_152 rfl (Nat.le_of_ble_eq_true rfl) (d' := d - 1) (by omega) (by omega) (by omega) (c_L_before (N := N) wt hl (d := d - 1) (by omega) kx ko (kk, δ1) h1 ?_)
  show AW _ _ _ _ _ _ _ _ _ (615 + 3) _ [.int kk] (g, δ1)
  refine a_istore ((5, .int kk) :: lv0 D x m o i) (μ := m_L_law) (pc := 618) dL_law_618 (by decide) rfl ?_
  refine a_aload_n 3 2 (μ := m_L_law) (pc := 620) dL_law_620 rfl rfl ?_
  refine l_arg (v := 1) 5 1 621 dL_law_621 dL_law_622 dL_law_624 dL_law_625 dL_law_626 rfl rfl (by decide) (hin 1 (by decide)) ?_
  refine l_arg (v := 2) 5 1 627 dL_law_627 dL_law_628 dL_law_630 dL_law_631 dL_law_632 rfl rfl (by decide) (hin 2 (by decide)) ?_
  refine a_callV (h := (g, δ1)) (rc' := rc) (rs' := rs) (As := [.int (sc D (i + 1)), .int (sc D (i + 2))]) (rest := []) (μ := m_L_law) (pc := 633) dL_law_633 cv_L_154 rfl km (by decide) rfl (Nat.le_of_ble_eq_true rfl) (d' := d - 1) (by omega) (by omega) (by omega) (c_X12_before (N := N) wt hl (d := d - 1) (by omega) km (b, δ2) h2 _ _ ?_)
  show AW _ _ _ _ _ _ _ _ _ (633 + 3) _ [.int b] (g, δ2)
  refine a_istore ((6, .int b) :: (5, .int kk) :: lv0 D x m o i) (μ := m_L_law) (pc := 636) dL_law_636 (by decide) rfl ?_
  refine a_goto 1673 (μ := m_L_law) (pc := 638) dL_law_638 (by decide) ?_
  exact a_lv [2, 3, 4, 5, 6] rfl K
set_option maxHeartbeats 4000000 in
theorem lw_11 {l : Launch} {D : va_G} {cy : Nat → ClassId} {N d rc rs : Nat} {P : Option Value → hp → Prop} {X : String → hp → Prop} {g : gp} (wt : WT g) (hl : l.stackTraces = false) (hd : 91 ≤ d) {x m o : Nat} {i : Int32} {δ : dp} (kx : q_K g x = 11) (km : q_K g m = 12) (ko : q_K g o = 14) (ho : q_N g o = 1) (hin : ∀ v : Int32, v ∈ [1, 2, 3, 4, 5] → vp_in (i + v) (D.2 102 1)) {kk b : Int32} {δ1 δ2 : dp} (h1 : D_L_kth N g x (sc D (i + 1)) (sc D (i + 2)) o δ = some (kk, δ1)) (h2 : D_X12_kth N g m (sc D (i + 1)) (sc D (i + 2)) δ1 = some (b, δ2)) (K : AW l D cy m_L_law d rc rs P X 1673 (lv0 D x m o i) [] (g, δ2)) : AW l D cy m_L_law d (rc + 3) (rs + 18) P X 641 (lv0 D x m o i) [] (g, δ) := by
  refine a_wk (rc' := rc + 3) (rs' := rs + 18) (by omega) (by omega) ?_
  refine a_aload_n 3 1 (μ := m_L_law) (pc := 641) dL_law_641 rfl rfl ?_
  refine l_arg (v := 1) 4 0 642 dL_law_642 dL_law_643 dL_law_645 dL_law_646 dL_law_647 rfl rfl (by decide) (hin 1 (by decide)) ?_
  refine l_arg (v := 2) 4 0 648 dL_law_648 dL_law_649 dL_law_651 dL_law_652 dL_law_653 rfl rfl (by decide) (hin 2 (by decide)) ?_
  refine a_aload_n 1 3 (μ := m_L_law) (pc := 654) dL_law_654 rfl rfl ?_
  refine a_callH (hh := hh_kth) (h := (g, δ)) (rc' := rc) (rs' := rs) (mc' := 1) (ms' := 6) (As := [.ref x, .int (sc D (i + 1)), .int (sc D (i + 2)), .ref o]) (rest := []) (μ := m_L_law) (pc := 655) dL_law_655 ch_155 rfl (Nat.le_of_ble_eq_true rfl) (d' := d - 1) (by omega) (by omega) (by omega) (c_L_kth (N := N) wt hl (d := d - 1) (by omega) kx ko (kk, δ1) h1 ?_)
  show AW _ _ _ _ _ _ _ _ _ (655 + 3) _ [.int kk] (g, δ1)
  refine a_istore ((5, .int kk) :: lv0 D x m o i) (μ := m_L_law) (pc := 658) dL_law_658 (by decide) rfl ?_
  refine a_aload_n 3 2 (μ := m_L_law) (pc := 660) dL_law_660 rfl rfl ?_
  refine l_arg (v := 1) 5 1 661 dL_law_661 dL_law_662 dL_law_664 dL_law_665 dL_law_666 rfl rfl (by decide) (hin 1 (by decide)) ?_
  refine l_arg (v := 2) 5 1 667 dL_law_667 dL_law_668 dL_law_670 dL_law_671 dL_law_672 rfl rfl (by decide) (hin 2 (by decide)) ?_
  refine a_callV (h := (g, δ1)) (rc' := rc) (rs' := rs) (As := [.int (sc D (i + 1)), .int (sc D (i + 2))]) (rest := []) (μ := m_L_law) (pc := 673) dL_law_673 cv_L_157 rfl km (by decide) rfl (Nat.le_of_ble_eq_true rfl) (d' := d - 1) (by omega) (by omega) (by omega) (c_X12_kth (N := N) wt hl (d := d - 1) (by omega) km (b, δ2) h2 _ _ ?_)
  show AW _ _ _ _ _ _ _ _ _ (673 + 3) _ [.int b] (g, δ2)
  refine a_istore ((6, .int b) :: (5, .int kk) :: lv0 D x m o i) (μ := m_L_law) (pc := 676) dL_law_676 (by decide) rfl ?_
  refine a_goto 1673 (μ := m_L_law) (pc := 678) dL_law_678 (by decide) ?_
  exact a_lv [2, 3, 4, 5, 6] rfl K
set_option maxHeartbeats 4000000 in
theorem lw_12 {l : Launch} {D : va_G} {cy : Nat → ClassId} {N d rc rs : Nat} {P : Option Value → hp → Prop} {X : String → hp → Prop} {g : gp} (wt : WT g) (hl : l.stackTraces = false) (hd : 91 ≤ d) {x m o : Nat} {i : Int32} {δ : dp} (kx : q_K g x = 11) (km : q_K g m = 12) (ko : q_K g o = 14) (ho : q_N g o = 1) (hin : ∀ v : Int32, v ∈ [1, 2, 3, 4, 5] → vp_in (i + v) (D.2 102 1)) {kk b : Int32} {δ1 δ2 : dp} (h1 : D_L_between N g x (sc D (i + 1)) (sc D (i + 2)) (sc D (i + 3)) o δ = some (kk, δ1)) (h2 : D_X12_between N g m (sc D (i + 1)) (sc D (i + 2)) (sc D (i + 3)) δ1 = some (b, δ2)) (K : AW l D cy m_L_law d rc rs P X 1673 (lv0 D x m o i) [] (g, δ2)) : AW l D cy m_L_law d (rc + 3) (rs + 18) P X 681 (lv0 D x m o i) [] (g, δ) := by
  refine a_wk (rc' := rc + 3) (rs' := rs + 18) (by omega) (by omega) ?_
  refine a_aload_n 3 1 (μ := m_L_law) (pc := 681) dL_law_681 rfl rfl ?_
  refine l_arg (v := 1) 4 0 682 dL_law_682 dL_law_683 dL_law_685 dL_law_686 dL_law_687 rfl rfl (by decide) (hin 1 (by decide)) ?_
  refine l_arg (v := 2) 4 0 688 dL_law_688 dL_law_689 dL_law_691 dL_law_692 dL_law_693 rfl rfl (by decide) (hin 2 (by decide)) ?_
  refine l_arg (v := 3) 4 0 694 dL_law_694 dL_law_695 dL_law_697 dL_law_698 dL_law_699 rfl rfl (by decide) (hin 3 (by decide)) ?_
  refine a_aload_n 1 3 (μ := m_L_law) (pc := 700) dL_law_700 rfl rfl ?_
  refine a_callH (hh := hh_between) (h := (g, δ)) (rc' := rc) (rs' := rs) (mc' := 2) (ms' := 12) (As := [.ref x, .int (sc D (i + 1)), .int (sc D (i + 2)), .int (sc D (i + 3)), .ref o]) (rest := []) (μ := m_L_law) (pc := 701) dL_law_701 ch_158 rfl (Nat.le_of_ble_eq_true rfl) (d' := d - 1) (by omega) (by omega) (by omega) (c_L_between (N := N) wt hl (d := d - 1) (by omega) kx ko (kk, δ1) h1 ?_)
  show AW _ _ _ _ _ _ _ _ _ (701 + 3) _ [.int kk] (g, δ1)
  refine a_istore ((5, .int kk) :: lv0 D x m o i) (μ := m_L_law) (pc := 704) dL_law_704 (by decide) rfl ?_
  refine a_aload_n 3 2 (μ := m_L_law) (pc := 706) dL_law_706 rfl rfl ?_
  refine l_arg (v := 1) 5 1 707 dL_law_707 dL_law_708 dL_law_710 dL_law_711 dL_law_712 rfl rfl (by decide) (hin 1 (by decide)) ?_
  refine l_arg (v := 2) 5 1 713 dL_law_713 dL_law_714 dL_law_716 dL_law_717 dL_law_718 rfl rfl (by decide) (hin 2 (by decide)) ?_
  refine l_arg (v := 3) 5 1 719 dL_law_719 dL_law_720 dL_law_722 dL_law_723 dL_law_724 rfl rfl (by decide) (hin 3 (by decide)) ?_
  refine a_callV (h := (g, δ1)) (rc' := rc) (rs' := rs) (As := [.int (sc D (i + 1)), .int (sc D (i + 2)), .int (sc D (i + 3))]) (rest := []) (μ := m_L_law) (pc := 725) dL_law_725 cv_L_161 rfl km (by decide) rfl (Nat.le_of_ble_eq_true rfl) (d' := d - 1) (by omega) (by omega) (by omega) (c_X12_between (N := N) wt hl (d := d - 1) (by omega) km (b, δ2) h2 _ _ ?_)
  show AW _ _ _ _ _ _ _ _ _ (725 + 3) _ [.int b] (g, δ2)
  refine a_istore ((6, .int b) :: (5, .int kk) :: lv0 D x m o i) (μ := m_L_law) (pc := 728) dL_law_728 (by decide) rfl ?_
  refine a_goto 1673 (μ := m_L_law) (pc := 730) dL_law_730 (by decide) ?_
  exact a_lv [2, 3, 4, 5, 6] rfl K
set_option maxHeartbeats 4000000 in
theorem lw_13 {l : Launch} {D : va_G} {cy : Nat → ClassId} {N d rc rs : Nat} {P : Option Value → hp → Prop} {X : String → hp → Prop} {g : gp} (wt : WT g) (hl : l.stackTraces = false) (hd : 91 ≤ d) {x m o : Nat} {i : Int32} {δ : dp} (kx : q_K g x = 11) (km : q_K g m = 12) (ko : q_K g o = 14) (ho : q_N g o = 1) (hin : ∀ v : Int32, v ∈ [1, 2, 3, 4, 5] → vp_in (i + v) (D.2 102 1)) {kk b : Int32} {δ1 δ2 : dp} (h1 : D_L_touches N g x (sc D (i + 1)) (sc D (i + 2)) (sc D (i + 3)) (sc D (i + 4)) o δ = some (kk, δ1)) (h2 : D_X12_touches N g m (sc D (i + 1)) (sc D (i + 2)) (sc D (i + 3)) (sc D (i + 4)) δ1 = some (b, δ2)) (K : AW l D cy m_L_law d rc rs P X 1673 (lv0 D x m o i) [] (g, δ2)) : AW l D cy m_L_law d (rc + 3) (rs + 18) P X 733 (lv0 D x m o i) [] (g, δ) := by
  refine a_wk (rc' := rc + 3) (rs' := rs + 18) (by omega) (by omega) ?_
  refine a_aload_n 3 1 (μ := m_L_law) (pc := 733) dL_law_733 rfl rfl ?_
  refine l_arg (v := 1) 4 0 734 dL_law_734 dL_law_735 dL_law_737 dL_law_738 dL_law_739 rfl rfl (by decide) (hin 1 (by decide)) ?_
  refine l_arg (v := 2) 4 0 740 dL_law_740 dL_law_741 dL_law_743 dL_law_744 dL_law_745 rfl rfl (by decide) (hin 2 (by decide)) ?_
  refine l_arg (v := 3) 4 0 746 dL_law_746 dL_law_747 dL_law_749 dL_law_750 dL_law_751 rfl rfl (by decide) (hin 3 (by decide)) ?_
  refine l_arg (v := 4) 4 0 752 dL_law_752 dL_law_753 dL_law_755 dL_law_756 dL_law_757 rfl rfl (by decide) (hin 4 (by decide)) ?_
  refine a_aload_n 1 3 (μ := m_L_law) (pc := 758) dL_law_758 rfl rfl ?_
  refine a_callH (hh := hh_touches) (h := (g, δ)) (rc' := rc) (rs' := rs) (mc' := 2) (ms' := 12) (As := [.ref x, .int (sc D (i + 1)), .int (sc D (i + 2)), .int (sc D (i + 3)), .int (sc D (i + 4)), .ref o]) (rest := []) (μ := m_L_law) (pc := 759) dL_law_759 ch_162 rfl (Nat.le_of_ble_eq_true rfl) (d' := d - 1) (by omega) (by omega) (by omega) (c_L_touches (N := N) wt hl (d := d - 1) (by omega) kx ko (kk, δ1) h1 ?_)
  show AW _ _ _ _ _ _ _ _ _ (759 + 3) _ [.int kk] (g, δ1)
  refine a_istore ((5, .int kk) :: lv0 D x m o i) (μ := m_L_law) (pc := 762) dL_law_762 (by decide) rfl ?_
  refine a_aload_n 3 2 (μ := m_L_law) (pc := 764) dL_law_764 rfl rfl ?_
  refine l_arg (v := 1) 5 1 765 dL_law_765 dL_law_766 dL_law_768 dL_law_769 dL_law_770 rfl rfl (by decide) (hin 1 (by decide)) ?_
  refine l_arg (v := 2) 5 1 771 dL_law_771 dL_law_772 dL_law_774 dL_law_775 dL_law_776 rfl rfl (by decide) (hin 2 (by decide)) ?_
  refine l_arg (v := 3) 5 1 777 dL_law_777 dL_law_778 dL_law_780 dL_law_781 dL_law_782 rfl rfl (by decide) (hin 3 (by decide)) ?_
  refine l_arg (v := 4) 5 1 783 dL_law_783 dL_law_784 dL_law_786 dL_law_787 dL_law_788 rfl rfl (by decide) (hin 4 (by decide)) ?_
  refine a_callV (h := (g, δ1)) (rc' := rc) (rs' := rs) (As := [.int (sc D (i + 1)), .int (sc D (i + 2)), .int (sc D (i + 3)), .int (sc D (i + 4))]) (rest := []) (μ := m_L_law) (pc := 789) dL_law_789 cv_L_165 rfl km (by decide) rfl (Nat.le_of_ble_eq_true rfl) (d' := d - 1) (by omega) (by omega) (by omega) (c_X12_touches (N := N) wt hl (d := d - 1) (by omega) km (b, δ2) h2 _ _ ?_)
  show AW _ _ _ _ _ _ _ _ _ (789 + 3) _ [.int b] (g, δ2)
  refine a_istore ((6, .int b) :: (5, .int kk) :: lv0 D x m o i) (μ := m_L_law) (pc := 792) dL_law_792 (by decide) rfl ?_
  refine a_goto 1673 (μ := m_L_law) (pc := 794) dL_law_794 (by decide) ?_
  exact a_lv [2, 3, 4, 5, 6] rfl K
set_option maxHeartbeats 4000000 in
theorem lw_14 {l : Launch} {D : va_G} {cy : Nat → ClassId} {N d rc rs : Nat} {P : Option Value → hp → Prop} {X : String → hp → Prop} {g : gp} (wt : WT g) (hl : l.stackTraces = false) (hd : 91 ≤ d) {x m o : Nat} {i : Int32} {δ : dp} (kx : q_K g x = 11) (km : q_K g m = 12) (ko : q_K g o = 14) (ho : q_N g o = 1) (hin : ∀ v : Int32, v ∈ [1, 2, 3, 4, 5] → vp_in (i + v) (D.2 102 1)) {kk b : Int32} {δ1 δ2 : dp} (h1 : D_L_size N g x (sc D (i + 1)) (sc D (i + 2)) o δ = some (kk, δ1)) (h2 : D_X12_size N g m (sc D (i + 1)) (sc D (i + 2)) δ1 = some (b, δ2)) (K : AW l D cy m_L_law d rc rs P X 1673 (lv0 D x m o i) [] (g, δ2)) : AW l D cy m_L_law d (rc + 3) (rs + 18) P X 797 (lv0 D x m o i) [] (g, δ) := by
  refine a_wk (rc' := rc + 3) (rs' := rs + 18) (by omega) (by omega) ?_
  refine a_aload_n 3 1 (μ := m_L_law) (pc := 797) dL_law_797 rfl rfl ?_
  refine l_arg (v := 1) 4 0 798 dL_law_798 dL_law_799 dL_law_801 dL_law_802 dL_law_803 rfl rfl (by decide) (hin 1 (by decide)) ?_
  refine l_arg (v := 2) 4 0 804 dL_law_804 dL_law_805 dL_law_807 dL_law_808 dL_law_809 rfl rfl (by decide) (hin 2 (by decide)) ?_
  refine a_aload_n 1 3 (μ := m_L_law) (pc := 810) dL_law_810 rfl rfl ?_
  refine a_callH (hh := hh_size) (h := (g, δ)) (rc' := rc) (rs' := rs) (mc' := 2) (ms' := 12) (As := [.ref x, .int (sc D (i + 1)), .int (sc D (i + 2)), .ref o]) (rest := []) (μ := m_L_law) (pc := 811) dL_law_811 ch_166 rfl (Nat.le_of_ble_eq_true rfl) (d' := d - 1) (by omega) (by omega) (by omega) (c_L_size (N := N) wt hl (d := d - 1) (by omega) kx ko (kk, δ1) h1 ?_)
  show AW _ _ _ _ _ _ _ _ _ (811 + 3) _ [.int kk] (g, δ1)
  refine a_istore ((5, .int kk) :: lv0 D x m o i) (μ := m_L_law) (pc := 814) dL_law_814 (by decide) rfl ?_
  refine a_aload_n 3 2 (μ := m_L_law) (pc := 816) dL_law_816 rfl rfl ?_
  refine l_arg (v := 1) 5 1 817 dL_law_817 dL_law_818 dL_law_820 dL_law_821 dL_law_822 rfl rfl (by decide) (hin 1 (by decide)) ?_
  refine l_arg (v := 2) 5 1 823 dL_law_823 dL_law_824 dL_law_826 dL_law_827 dL_law_828 rfl rfl (by decide) (hin 2 (by decide)) ?_
  refine a_callV (h := (g, δ1)) (rc' := rc) (rs' := rs) (As := [.int (sc D (i + 1)), .int (sc D (i + 2))]) (rest := []) (μ := m_L_law) (pc := 829) dL_law_829 cv_L_168 rfl km (by decide) rfl (Nat.le_of_ble_eq_true rfl) (d' := d - 1) (by omega) (by omega) (by omega) (c_X12_size (N := N) wt hl (d := d - 1) (by omega) km (b, δ2) h2 _ _ ?_)
  show AW _ _ _ _ _ _ _ _ _ (829 + 3) _ [.int b] (g, δ2)
  refine a_istore ((6, .int b) :: (5, .int kk) :: lv0 D x m o i) (μ := m_L_law) (pc := 832) dL_law_832 (by decide) rfl ?_
  refine a_goto 1673 (μ := m_L_law) (pc := 834) dL_law_834 (by decide) ?_
  exact a_lv [2, 3, 4, 5, 6] rfl K
set_option maxHeartbeats 4000000 in
theorem lw_15 {l : Launch} {D : va_G} {cy : Nat → ClassId} {N d rc rs : Nat} {P : Option Value → hp → Prop} {X : String → hp → Prop} {g : gp} (wt : WT g) (hl : l.stackTraces = false) (hd : 91 ≤ d) {x m o : Nat} {i : Int32} {δ : dp} (kx : q_K g x = 11) (km : q_K g m = 12) (ko : q_K g o = 14) (ho : q_N g o = 1) (hin : ∀ v : Int32, v ∈ [1, 2, 3, 4, 5] → vp_in (i + v) (D.2 102 1)) {kk b : Int32} {δ1 δ2 : dp} (h1 : D_L_bound N g x (sc D (i + 1)) o δ = some (kk, δ1)) (h2 : D_X12_bound N g m (sc D (i + 1)) δ1 = some (b, δ2)) (K : AW l D cy m_L_law d rc rs P X 1673 (lv0 D x m o i) [] (g, δ2)) : AW l D cy m_L_law d (rc + 3) (rs + 18) P X 837 (lv0 D x m o i) [] (g, δ) := by
  refine a_wk (rc' := rc + 3) (rs' := rs + 18) (by omega) (by omega) ?_
  refine a_aload_n 3 1 (μ := m_L_law) (pc := 837) dL_law_837 rfl rfl ?_
  refine l_arg (v := 1) 4 0 838 dL_law_838 dL_law_839 dL_law_841 dL_law_842 dL_law_843 rfl rfl (by decide) (hin 1 (by decide)) ?_
  refine a_aload_n 1 3 (μ := m_L_law) (pc := 844) dL_law_844 rfl rfl ?_
  refine a_callH (hh := hh_bound) (h := (g, δ)) (rc' := rc) (rs' := rs) (mc' := 1) (ms' := 6) (As := [.ref x, .int (sc D (i + 1)), .ref o]) (rest := []) (μ := m_L_law) (pc := 845) dL_law_845 ch_169 rfl (Nat.le_of_ble_eq_true rfl) (d' := d - 1) (by omega) (by omega) (by omega) (c_L_bound (N := N) wt hl (d := d - 1) (by omega) kx ko (kk, δ1) h1 ?_)
  show AW _ _ _ _ _ _ _ _ _ (845 + 3) _ [.int kk] (g, δ1)
  refine a_istore ((5, .int kk) :: lv0 D x m o i) (μ := m_L_law) (pc := 848) dL_law_848 (by decide) rfl ?_
  refine a_aload_n 3 2 (μ := m_L_law) (pc := 850) dL_law_850 rfl rfl ?_
  refine l_arg (v := 1) 5 1 851 dL_law_851 dL_law_852 dL_law_854 dL_law_855 dL_law_856 rfl rfl (by decide) (hin 1 (by decide)) ?_
  refine a_callV (h := (g, δ1)) (rc' := rc) (rs' := rs) (As := [.int (sc D (i + 1))]) (rest := []) (μ := m_L_law) (pc := 857) dL_law_857 cv_L_171 rfl km (by decide) rfl (Nat.le_of_ble_eq_true rfl) (d' := d - 1) (by omega) (by omega) (by omega) (c_X12_bound (N := N) wt hl (d := d - 1) (by omega) km (b, δ2) h2 _ _ ?_)
  show AW _ _ _ _ _ _ _ _ _ (857 + 3) _ [.int b] (g, δ2)
  refine a_istore ((6, .int b) :: (5, .int kk) :: lv0 D x m o i) (μ := m_L_law) (pc := 860) dL_law_860 (by decide) rfl ?_
  refine a_goto 1673 (μ := m_L_law) (pc := 862) dL_law_862 (by decide) ?_
  exact a_lv [2, 3, 4, 5, 6] rfl K
set_option maxHeartbeats 4000000 in
theorem lw_16 {l : Launch} {D : va_G} {cy : Nat → ClassId} {N d rc rs : Nat} {P : Option Value → hp → Prop} {X : String → hp → Prop} {g : gp} (wt : WT g) (hl : l.stackTraces = false) (hd : 91 ≤ d) {x m o : Nat} {i : Int32} {δ : dp} (kx : q_K g x = 11) (km : q_K g m = 12) (ko : q_K g o = 14) (ho : q_N g o = 1) (hin : ∀ v : Int32, v ∈ [1, 2, 3, 4, 5] → vp_in (i + v) (D.2 102 1)) {kk b : Int32} {δ1 δ2 : dp} (h1 : D_L_worst N g x (sc D (i + 1)) (sc D (i + 2)) (sc D (i + 3)) o δ = some (kk, δ1)) (h2 : D_X12_worst N g m (sc D (i + 1)) (sc D (i + 2)) (sc D (i + 3)) δ1 = some (b, δ2)) (K : AW l D cy m_L_law d rc rs P X 1673 (lv0 D x m o i) [] (g, δ2)) : AW l D cy m_L_law d (rc + 3) (rs + 18) P X 865 (lv0 D x m o i) [] (g, δ) := by
  refine a_wk (rc' := rc + 3) (rs' := rs + 18) (by omega) (by omega) ?_
  refine a_aload_n 3 1 (μ := m_L_law) (pc := 865) dL_law_865 rfl rfl ?_
  refine l_arg (v := 1) 4 0 866 dL_law_866 dL_law_867 dL_law_869 dL_law_870 dL_law_871 rfl rfl (by decide) (hin 1 (by decide)) ?_
  refine l_arg (v := 2) 4 0 872 dL_law_872 dL_law_873 dL_law_875 dL_law_876 dL_law_877 rfl rfl (by decide) (hin 2 (by decide)) ?_
  refine l_arg (v := 3) 4 0 878 dL_law_878 dL_law_879 dL_law_881 dL_law_882 dL_law_883 rfl rfl (by decide) (hin 3 (by decide)) ?_
  refine a_aload_n 1 3 (μ := m_L_law) (pc := 884) dL_law_884 rfl rfl ?_
  refine a_callH (hh := hh_worst) (h := (g, δ)) (rc' := rc) (rs' := rs) (mc' := 1) (ms' := 6) (As := [.ref x, .int (sc D (i + 1)), .int (sc D (i + 2)), .int (sc D (i + 3)), .ref o]) (rest := []) (μ := m_L_law) (pc := 885) dL_law_885 ch_172 rfl (Nat.le_of_ble_eq_true rfl) (d' := d - 1) (by omega) (by omega) (by omega) (c_L_worst (N := N) wt hl (d := d - 1) (by omega) kx ko (kk, δ1) h1 ?_)
  show AW _ _ _ _ _ _ _ _ _ (885 + 3) _ [.int kk] (g, δ1)
  refine a_istore ((5, .int kk) :: lv0 D x m o i) (μ := m_L_law) (pc := 888) dL_law_888 (by decide) rfl ?_
  refine a_aload_n 3 2 (μ := m_L_law) (pc := 890) dL_law_890 rfl rfl ?_
  refine l_arg (v := 1) 5 1 891 dL_law_891 dL_law_892 dL_law_894 dL_law_895 dL_law_896 rfl rfl (by decide) (hin 1 (by decide)) ?_
  refine l_arg (v := 2) 5 1 897 dL_law_897 dL_law_898 dL_law_900 dL_law_901 dL_law_902 rfl rfl (by decide) (hin 2 (by decide)) ?_
  refine l_arg (v := 3) 5 1 903 dL_law_903 dL_law_904 dL_law_906 dL_law_907 dL_law_908 rfl rfl (by decide) (hin 3 (by decide)) ?_
  refine a_callV (h := (g, δ1)) (rc' := rc) (rs' := rs) (As := [.int (sc D (i + 1)), .int (sc D (i + 2)), .int (sc D (i + 3))]) (rest := []) (μ := m_L_law) (pc := 909) dL_law_909 cv_L_174 rfl km (by decide) rfl (Nat.le_of_ble_eq_true rfl) (d' := d - 1) (by omega) (by omega) (by omega) (c_X12_worst (N := N) wt hl (d := d - 1) (by omega) km (b, δ2) h2 _ _ ?_)
  show AW _ _ _ _ _ _ _ _ _ (909 + 3) _ [.int b] (g, δ2)
  refine a_istore ((6, .int b) :: (5, .int kk) :: lv0 D x m o i) (μ := m_L_law) (pc := 912) dL_law_912 (by decide) rfl ?_
  refine a_goto 1673 (μ := m_L_law) (pc := 914) dL_law_914 (by decide) ?_
  exact a_lv [2, 3, 4, 5, 6] rfl K
set_option maxHeartbeats 4000000 in
theorem lw_17 {l : Launch} {D : va_G} {cy : Nat → ClassId} {N d rc rs : Nat} {P : Option Value → hp → Prop} {X : String → hp → Prop} {g : gp} (wt : WT g) (hl : l.stackTraces = false) (hd : 91 ≤ d) {x m o : Nat} {i : Int32} {δ : dp} (kx : q_K g x = 11) (km : q_K g m = 12) (ko : q_K g o = 14) (ho : q_N g o = 1) (hin : ∀ v : Int32, v ∈ [1, 2, 3, 4, 5] → vp_in (i + v) (D.2 102 1)) {kk b : Int32} {δ1 δ2 : dp} (h1 : D_L_bad N g x (sc D (i + 1)) (sc D (i + 2)) (sc D (i + 3)) o δ = some (kk, δ1)) (h2 : D_X12_bad N g m (sc D (i + 1)) (sc D (i + 2)) (sc D (i + 3)) δ1 = some (b, δ2)) (K : AW l D cy m_L_law d rc rs P X 1673 (lv0 D x m o i) [] (g, δ2)) : AW l D cy m_L_law d (rc + 3) (rs + 18) P X 917 (lv0 D x m o i) [] (g, δ) := by
  refine a_wk (rc' := rc + 3) (rs' := rs + 18) (by omega) (by omega) ?_
  refine a_aload_n 3 1 (μ := m_L_law) (pc := 917) dL_law_917 rfl rfl ?_
  refine l_arg (v := 1) 4 0 918 dL_law_918 dL_law_919 dL_law_921 dL_law_922 dL_law_923 rfl rfl (by decide) (hin 1 (by decide)) ?_
  refine l_arg (v := 2) 4 0 924 dL_law_924 dL_law_925 dL_law_927 dL_law_928 dL_law_929 rfl rfl (by decide) (hin 2 (by decide)) ?_
  refine l_arg (v := 3) 4 0 930 dL_law_930 dL_law_931 dL_law_933 dL_law_934 dL_law_935 rfl rfl (by decide) (hin 3 (by decide)) ?_
  refine a_aload_n 1 3 (μ := m_L_law) (pc := 936) dL_law_936 rfl rfl ?_
  refine a_callH (hh := hh_bad) (h := (g, δ)) (rc' := rc) (rs' := rs) (mc' := 1) (ms' := 6) (As := [.ref x, .int (sc D (i + 1)), .int (sc D (i + 2)), .int (sc D (i + 3)), .ref o]) (rest := []) (μ := m_L_law) (pc := 937) dL_law_937 ch_175 rfl (Nat.le_of_ble_eq_true rfl) (d' := d - 1) (by omega) (by omega) (by omega) (c_L_bad (N := N) wt hl (d := d - 1) (by omega) kx ko (kk, δ1) h1 ?_)
  show AW _ _ _ _ _ _ _ _ _ (937 + 3) _ [.int kk] (g, δ1)
  refine a_istore ((5, .int kk) :: lv0 D x m o i) (μ := m_L_law) (pc := 940) dL_law_940 (by decide) rfl ?_
  refine a_aload_n 3 2 (μ := m_L_law) (pc := 942) dL_law_942 rfl rfl ?_
  refine l_arg (v := 1) 5 1 943 dL_law_943 dL_law_944 dL_law_946 dL_law_947 dL_law_948 rfl rfl (by decide) (hin 1 (by decide)) ?_
  refine l_arg (v := 2) 5 1 949 dL_law_949 dL_law_950 dL_law_952 dL_law_953 dL_law_954 rfl rfl (by decide) (hin 2 (by decide)) ?_
  refine l_arg (v := 3) 5 1 955 dL_law_955 dL_law_956 dL_law_958 dL_law_959 dL_law_960 rfl rfl (by decide) (hin 3 (by decide)) ?_
  refine a_callV (h := (g, δ1)) (rc' := rc) (rs' := rs) (As := [.int (sc D (i + 1)), .int (sc D (i + 2)), .int (sc D (i + 3))]) (rest := []) (μ := m_L_law) (pc := 961) dL_law_961 cv_L_177 rfl km (by decide) rfl (Nat.le_of_ble_eq_true rfl) (d' := d - 1) (by omega) (by omega) (by omega) (c_X12_bad (N := N) wt hl (d := d - 1) (by omega) km (b, δ2) h2 _ _ ?_)
  show AW _ _ _ _ _ _ _ _ _ (961 + 3) _ [.int b] (g, δ2)
  refine a_istore ((6, .int b) :: (5, .int kk) :: lv0 D x m o i) (μ := m_L_law) (pc := 964) dL_law_964 (by decide) rfl ?_
  refine a_goto 1673 (μ := m_L_law) (pc := 966) dL_law_966 (by decide) ?_
  exact a_lv [2, 3, 4, 5, 6] rfl K
set_option maxHeartbeats 4000000 in
theorem lw_18 {l : Launch} {D : va_G} {cy : Nat → ClassId} {N d rc rs : Nat} {P : Option Value → hp → Prop} {X : String → hp → Prop} {g : gp} (wt : WT g) (hl : l.stackTraces = false) (hd : 91 ≤ d) {x m o : Nat} {i : Int32} {δ : dp} (kx : q_K g x = 11) (km : q_K g m = 12) (ko : q_K g o = 14) (ho : q_N g o = 1) (hin : ∀ v : Int32, v ∈ [1, 2, 3, 4, 5] → vp_in (i + v) (D.2 102 1)) {kk b : Int32} {δ1 δ2 : dp} (h1 : D_L_was N g x (sc D (i + 1)) (sc D (i + 2)) (sc D (i + 3)) o δ = some (kk, δ1)) (h2 : D_X12_was N g m (sc D (i + 1)) (sc D (i + 2)) (sc D (i + 3)) δ1 = some (b, δ2)) (K : AW l D cy m_L_law d rc rs P X 1673 (lv0 D x m o i) [] (g, δ2)) : AW l D cy m_L_law d (rc + 3) (rs + 18) P X 969 (lv0 D x m o i) [] (g, δ) := by
  refine a_wk (rc' := rc + 3) (rs' := rs + 18) (by omega) (by omega) ?_
  refine a_aload_n 3 1 (μ := m_L_law) (pc := 969) dL_law_969 rfl rfl ?_
  refine l_arg (v := 1) 4 0 970 dL_law_970 dL_law_971 dL_law_973 dL_law_974 dL_law_975 rfl rfl (by decide) (hin 1 (by decide)) ?_
  refine l_arg (v := 2) 4 0 976 dL_law_976 dL_law_977 dL_law_979 dL_law_980 dL_law_981 rfl rfl (by decide) (hin 2 (by decide)) ?_
  refine l_arg (v := 3) 4 0 982 dL_law_982 dL_law_983 dL_law_985 dL_law_986 dL_law_987 rfl rfl (by decide) (hin 3 (by decide)) ?_
  refine a_aload_n 1 3 (μ := m_L_law) (pc := 988) dL_law_988 rfl rfl ?_
  refine a_callH (hh := hh_was) (h := (g, δ)) (rc' := rc) (rs' := rs) (mc' := 2) (ms' := 12) (As := [.ref x, .int (sc D (i + 1)), .int (sc D (i + 2)), .int (sc D (i + 3)), .ref o]) (rest := []) (μ := m_L_law) (pc := 989) dL_law_989 ch_178 rfl (Nat.le_of_ble_eq_true rfl) (d' := d - 1) (by omega) (by omega) (by omega) (c_L_was (N := N) wt hl (d := d - 1) (by omega) kx ko (kk, δ1) h1 ?_)
  show AW _ _ _ _ _ _ _ _ _ (989 + 3) _ [.int kk] (g, δ1)
  refine a_istore ((5, .int kk) :: lv0 D x m o i) (μ := m_L_law) (pc := 992) dL_law_992 (by decide) rfl ?_
  refine a_aload_n 3 2 (μ := m_L_law) (pc := 994) dL_law_994 rfl rfl ?_
  refine l_arg (v := 1) 5 1 995 dL_law_995 dL_law_996 dL_law_998 dL_law_999 dL_law_1000 rfl rfl (by decide) (hin 1 (by decide)) ?_
  refine l_arg (v := 2) 5 1 1001 dL_law_1001 dL_law_1002 dL_law_1004 dL_law_1005 dL_law_1006 rfl rfl (by decide) (hin 2 (by decide)) ?_
  refine l_arg (v := 3) 5 1 1007 dL_law_1007 dL_law_1008 dL_law_1010 dL_law_1011 dL_law_1012 rfl rfl (by decide) (hin 3 (by decide)) ?_
  refine a_callV (h := (g, δ1)) (rc' := rc) (rs' := rs) (As := [.int (sc D (i + 1)), .int (sc D (i + 2)), .int (sc D (i + 3))]) (rest := []) (μ := m_L_law) (pc := 1013) dL_law_1013 cv_L_180 rfl km (by decide) rfl (Nat.le_of_ble_eq_true rfl) (d' := d - 1) (by omega) (by omega) (by omega) (c_X12_was (N := N) wt hl (d := d - 1) (by omega) km (b, δ2) h2 _ _ ?_)
  show AW _ _ _ _ _ _ _ _ _ (1013 + 3) _ [.int b] (g, δ2)
  refine a_istore ((6, .int b) :: (5, .int kk) :: lv0 D x m o i) (μ := m_L_law) (pc := 1016) dL_law_1016 (by decide) rfl ?_
  refine a_goto 1673 (μ := m_L_law) (pc := 1018) dL_law_1018 (by decide) ?_
  exact a_lv [2, 3, 4, 5, 6] rfl K
set_option maxHeartbeats 4000000 in
theorem lw_19 {l : Launch} {D : va_G} {cy : Nat → ClassId} {N d rc rs : Nat} {P : Option Value → hp → Prop} {X : String → hp → Prop} {g : gp} (wt : WT g) (hl : l.stackTraces = false) (hd : 91 ≤ d) {x m o : Nat} {i : Int32} {δ : dp} (kx : q_K g x = 11) (km : q_K g m = 12) (ko : q_K g o = 14) (ho : q_N g o = 1) (hin : ∀ v : Int32, v ∈ [1, 2, 3, 4, 5] → vp_in (i + v) (D.2 102 1)) {kk b : Int32} {δ1 δ2 : dp} (h1 : D_L_asked N g x (sc D (i + 1)) (sc D (i + 2)) (sc D (i + 3)) (sc D (i + 4)) o δ = some (kk, δ1)) (h2 : D_X12_asked N g m (sc D (i + 1)) (sc D (i + 2)) (sc D (i + 3)) (sc D (i + 4)) δ1 = some (b, δ2)) (K : AW l D cy m_L_law d rc rs P X 1673 (lv0 D x m o i) [] (g, δ2)) : AW l D cy m_L_law d (rc + 3) (rs + 18) P X 1021 (lv0 D x m o i) [] (g, δ) := by
  refine a_wk (rc' := rc + 3) (rs' := rs + 18) (by omega) (by omega) ?_
  refine a_aload_n 3 1 (μ := m_L_law) (pc := 1021) dL_law_1021 rfl rfl ?_
  refine l_arg (v := 1) 4 0 1022 dL_law_1022 dL_law_1023 dL_law_1025 dL_law_1026 dL_law_1027 rfl rfl (by decide) (hin 1 (by decide)) ?_
  refine l_arg (v := 2) 4 0 1028 dL_law_1028 dL_law_1029 dL_law_1031 dL_law_1032 dL_law_1033 rfl rfl (by decide) (hin 2 (by decide)) ?_
  refine l_arg (v := 3) 4 0 1034 dL_law_1034 dL_law_1035 dL_law_1037 dL_law_1038 dL_law_1039 rfl rfl (by decide) (hin 3 (by decide)) ?_
  refine l_arg (v := 4) 4 0 1040 dL_law_1040 dL_law_1041 dL_law_1043 dL_law_1044 dL_law_1045 rfl rfl (by decide) (hin 4 (by decide)) ?_
  refine a_aload_n 1 3 (μ := m_L_law) (pc := 1046) dL_law_1046 rfl rfl ?_
  refine a_callH (hh := hh_asked) (h := (g, δ)) (rc' := rc) (rs' := rs) (mc' := 2) (ms' := 12) (As := [.ref x, .int (sc D (i + 1)), .int (sc D (i + 2)), .int (sc D (i + 3)), .int (sc D (i + 4)), .ref o]) (rest := []) (μ := m_L_law) (pc := 1047) dL_law_1047 ch_181 rfl (Nat.le_of_ble_eq_true rfl) (d' := d - 1) (by omega) (by omega) (by omega) (c_L_asked (N := N) wt hl (d := d - 1) (by omega) kx ko (kk, δ1) h1 ?_)
  show AW _ _ _ _ _ _ _ _ _ (1047 + 3) _ [.int kk] (g, δ1)
  refine a_istore ((5, .int kk) :: lv0 D x m o i) (μ := m_L_law) (pc := 1050) dL_law_1050 (by decide) rfl ?_
  refine a_aload_n 3 2 (μ := m_L_law) (pc := 1052) dL_law_1052 rfl rfl ?_
  refine l_arg (v := 1) 5 1 1053 dL_law_1053 dL_law_1054 dL_law_1056 dL_law_1057 dL_law_1058 rfl rfl (by decide) (hin 1 (by decide)) ?_
  refine l_arg (v := 2) 5 1 1059 dL_law_1059 dL_law_1060 dL_law_1062 dL_law_1063 dL_law_1064 rfl rfl (by decide) (hin 2 (by decide)) ?_
  refine l_arg (v := 3) 5 1 1065 dL_law_1065 dL_law_1066 dL_law_1068 dL_law_1069 dL_law_1070 rfl rfl (by decide) (hin 3 (by decide)) ?_
  refine l_arg (v := 4) 5 1 1071 dL_law_1071 dL_law_1072 dL_law_1074 dL_law_1075 dL_law_1076 rfl rfl (by decide) (hin 4 (by decide)) ?_
  refine a_callV (h := (g, δ1)) (rc' := rc) (rs' := rs) (As := [.int (sc D (i + 1)), .int (sc D (i + 2)), .int (sc D (i + 3)), .int (sc D (i + 4))]) (rest := []) (μ := m_L_law) (pc := 1077) dL_law_1077 cv_L_183 rfl km (by decide) rfl (Nat.le_of_ble_eq_true rfl) (d' := d - 1) (by omega) (by omega) (by omega) (c_X12_asked (N := N) wt hl (d := d - 1) (by omega) km (b, δ2) h2 _ _ ?_)
  show AW _ _ _ _ _ _ _ _ _ (1077 + 3) _ [.int b] (g, δ2)
  refine a_istore ((6, .int b) :: (5, .int kk) :: lv0 D x m o i) (μ := m_L_law) (pc := 1080) dL_law_1080 (by decide) rfl ?_
  refine a_goto 1673 (μ := m_L_law) (pc := 1082) dL_law_1082 (by decide) ?_
  exact a_lv [2, 3, 4, 5, 6] rfl K
set_option maxHeartbeats 4000000 in
theorem lw_20 {l : Launch} {D : va_G} {cy : Nat → ClassId} {N d rc rs : Nat} {P : Option Value → hp → Prop} {X : String → hp → Prop} {g : gp} (wt : WT g) (hl : l.stackTraces = false) (hd : 91 ≤ d) {x m o : Nat} {i : Int32} {δ : dp} (kx : q_K g x = 11) (km : q_K g m = 12) (ko : q_K g o = 14) (ho : q_N g o = 1) (hin : ∀ v : Int32, v ∈ [1, 2, 3, 4, 5] → vp_in (i + v) (D.2 102 1)) {kk b : Int32} {δ1 δ2 : dp} (h1 : D_L_since N g x (sc D (i + 1)) (sc D (i + 2)) (sc D (i + 3)) o δ = some (kk, δ1)) (h2 : D_X12_since N g m (sc D (i + 1)) (sc D (i + 2)) (sc D (i + 3)) δ1 = some (b, δ2)) (K : AW l D cy m_L_law d rc rs P X 1673 (lv0 D x m o i) [] (g, δ2)) : AW l D cy m_L_law d (rc + 3) (rs + 18) P X 1085 (lv0 D x m o i) [] (g, δ) := by
  refine a_wk (rc' := rc + 3) (rs' := rs + 18) (by omega) (by omega) ?_
  refine a_aload_n 3 1 (μ := m_L_law) (pc := 1085) dL_law_1085 rfl rfl ?_
  refine l_arg (v := 1) 4 0 1086 dL_law_1086 dL_law_1087 dL_law_1089 dL_law_1090 dL_law_1091 rfl rfl (by decide) (hin 1 (by decide)) ?_
  refine l_arg (v := 2) 4 0 1092 dL_law_1092 dL_law_1093 dL_law_1095 dL_law_1096 dL_law_1097 rfl rfl (by decide) (hin 2 (by decide)) ?_
  refine l_arg (v := 3) 4 0 1098 dL_law_1098 dL_law_1099 dL_law_1101 dL_law_1102 dL_law_1103 rfl rfl (by decide) (hin 3 (by decide)) ?_
  refine a_aload_n 1 3 (μ := m_L_law) (pc := 1104) dL_law_1104 rfl rfl ?_
  refine a_callH (hh := hh_since) (h := (g, δ)) (rc' := rc) (rs' := rs) (mc' := 2) (ms' := 12) (As := [.ref x, .int (sc D (i + 1)), .int (sc D (i + 2)), .int (sc D (i + 3)), .ref o]) (rest := []) (μ := m_L_law) (pc := 1105) dL_law_1105 ch_184 rfl (Nat.le_of_ble_eq_true rfl) (d' := d - 1) (by omega) (by omega) (by omega) (c_L_since (N := N) wt hl (d := d - 1) (by omega) kx ko (kk, δ1) h1 ?_)
  show AW _ _ _ _ _ _ _ _ _ (1105 + 3) _ [.int kk] (g, δ1)
  refine a_istore ((5, .int kk) :: lv0 D x m o i) (μ := m_L_law) (pc := 1108) dL_law_1108 (by decide) rfl ?_
  refine a_aload_n 3 2 (μ := m_L_law) (pc := 1110) dL_law_1110 rfl rfl ?_
  refine l_arg (v := 1) 5 1 1111 dL_law_1111 dL_law_1112 dL_law_1114 dL_law_1115 dL_law_1116 rfl rfl (by decide) (hin 1 (by decide)) ?_
  refine l_arg (v := 2) 5 1 1117 dL_law_1117 dL_law_1118 dL_law_1120 dL_law_1121 dL_law_1122 rfl rfl (by decide) (hin 2 (by decide)) ?_
  refine l_arg (v := 3) 5 1 1123 dL_law_1123 dL_law_1124 dL_law_1126 dL_law_1127 dL_law_1128 rfl rfl (by decide) (hin 3 (by decide)) ?_
  refine a_callV (h := (g, δ1)) (rc' := rc) (rs' := rs) (As := [.int (sc D (i + 1)), .int (sc D (i + 2)), .int (sc D (i + 3))]) (rest := []) (μ := m_L_law) (pc := 1129) dL_law_1129 cv_L_186 rfl km (by decide) rfl (Nat.le_of_ble_eq_true rfl) (d' := d - 1) (by omega) (by omega) (by omega) (c_X12_since (N := N) wt hl (d := d - 1) (by omega) km (b, δ2) h2 _ _ ?_)
  show AW _ _ _ _ _ _ _ _ _ (1129 + 3) _ [.int b] (g, δ2)
  refine a_istore ((6, .int b) :: (5, .int kk) :: lv0 D x m o i) (μ := m_L_law) (pc := 1132) dL_law_1132 (by decide) rfl ?_
  refine a_goto 1673 (μ := m_L_law) (pc := 1134) dL_law_1134 (by decide) ?_
  exact a_lv [2, 3, 4, 5, 6] rfl K
set_option maxHeartbeats 4000000 in
theorem lw_21 {l : Launch} {D : va_G} {cy : Nat → ClassId} {N d rc rs : Nat} {P : Option Value → hp → Prop} {X : String → hp → Prop} {g : gp} (wt : WT g) (hl : l.stackTraces = false) (hd : 91 ≤ d) {x m o : Nat} {i : Int32} {δ : dp} (kx : q_K g x = 11) (km : q_K g m = 12) (ko : q_K g o = 14) (ho : q_N g o = 1) (hin : ∀ v : Int32, v ∈ [1, 2, 3, 4, 5] → vp_in (i + v) (D.2 102 1)) {kk b : Int32} {δ1 δ2 : dp} (h1 : D_L_room N g x (sc D (i + 1)) (sc D (i + 2)) o δ = some (kk, δ1)) (h2 : D_X12_room N g m (sc D (i + 1)) (sc D (i + 2)) δ1 = some (b, δ2)) (K : AW l D cy m_L_law d rc rs P X 1673 (lv0 D x m o i) [] (g, δ2)) : AW l D cy m_L_law d (rc + 3) (rs + 18) P X 1137 (lv0 D x m o i) [] (g, δ) := by
  refine a_wk (rc' := rc + 3) (rs' := rs + 18) (by omega) (by omega) ?_
  refine a_aload_n 3 1 (μ := m_L_law) (pc := 1137) dL_law_1137 rfl rfl ?_
  refine l_arg (v := 1) 4 0 1138 dL_law_1138 dL_law_1139 dL_law_1141 dL_law_1142 dL_law_1143 rfl rfl (by decide) (hin 1 (by decide)) ?_
  refine l_arg (v := 2) 4 0 1144 dL_law_1144 dL_law_1145 dL_law_1147 dL_law_1148 dL_law_1149 rfl rfl (by decide) (hin 2 (by decide)) ?_
  refine a_aload_n 1 3 (μ := m_L_law) (pc := 1150) dL_law_1150 rfl rfl ?_
  refine a_callH (hh := hh_room) (h := (g, δ)) (rc' := rc) (rs' := rs) (mc' := 2) (ms' := 12) (As := [.ref x, .int (sc D (i + 1)), .int (sc D (i + 2)), .ref o]) (rest := []) (μ := m_L_law) (pc := 1151) dL_law_1151 ch_187 rfl (Nat.le_of_ble_eq_true rfl) (d' := d - 1) (by omega) (by omega) (by omega) (c_L_room (N := N) wt hl (d := d - 1) (by omega) kx ko (kk, δ1) h1 ?_)
  show AW _ _ _ _ _ _ _ _ _ (1151 + 3) _ [.int kk] (g, δ1)
  refine a_istore ((5, .int kk) :: lv0 D x m o i) (μ := m_L_law) (pc := 1154) dL_law_1154 (by decide) rfl ?_
  refine a_aload_n 3 2 (μ := m_L_law) (pc := 1156) dL_law_1156 rfl rfl ?_
  refine l_arg (v := 1) 5 1 1157 dL_law_1157 dL_law_1158 dL_law_1160 dL_law_1161 dL_law_1162 rfl rfl (by decide) (hin 1 (by decide)) ?_
  refine l_arg (v := 2) 5 1 1163 dL_law_1163 dL_law_1164 dL_law_1166 dL_law_1167 dL_law_1168 rfl rfl (by decide) (hin 2 (by decide)) ?_
  refine a_callV (h := (g, δ1)) (rc' := rc) (rs' := rs) (As := [.int (sc D (i + 1)), .int (sc D (i + 2))]) (rest := []) (μ := m_L_law) (pc := 1169) dL_law_1169 cv_L_189 rfl km (by decide) rfl (Nat.le_of_ble_eq_true rfl) (d' := d - 1) (by omega) (by omega) (by omega) (c_X12_room (N := N) wt hl (d := d - 1) (by omega) km (b, δ2) h2 _ _ ?_)
  show AW _ _ _ _ _ _ _ _ _ (1169 + 3) _ [.int b] (g, δ2)
  refine a_istore ((6, .int b) :: (5, .int kk) :: lv0 D x m o i) (μ := m_L_law) (pc := 1172) dL_law_1172 (by decide) rfl ?_
  refine a_goto 1673 (μ := m_L_law) (pc := 1174) dL_law_1174 (by decide) ?_
  exact a_lv [2, 3, 4, 5, 6] rfl K
set_option maxHeartbeats 4000000 in
theorem lw_22 {l : Launch} {D : va_G} {cy : Nat → ClassId} {N d rc rs : Nat} {P : Option Value → hp → Prop} {X : String → hp → Prop} {g : gp} (wt : WT g) (hl : l.stackTraces = false) (hd : 91 ≤ d) {x m o : Nat} {i : Int32} {δ : dp} (kx : q_K g x = 11) (km : q_K g m = 12) (ko : q_K g o = 14) (ho : q_N g o = 1) (hin : ∀ v : Int32, v ∈ [1, 2, 3, 4, 5] → vp_in (i + v) (D.2 102 1)) {kk b : Int32} {δ1 δ2 : dp} (h1 : D_L_joins N g x (sc D (i + 1)) (sc D (i + 2)) (sc D (i + 3)) o δ = some (kk, δ1)) (h2 : D_X12_joins N g m (sc D (i + 1)) (sc D (i + 2)) (sc D (i + 3)) δ1 = some (b, δ2)) (K : AW l D cy m_L_law d rc rs P X 1673 (lv0 D x m o i) [] (g, δ2)) : AW l D cy m_L_law d (rc + 3) (rs + 18) P X 1177 (lv0 D x m o i) [] (g, δ) := by
  refine a_wk (rc' := rc + 3) (rs' := rs + 18) (by omega) (by omega) ?_
  refine a_aload_n 3 1 (μ := m_L_law) (pc := 1177) dL_law_1177 rfl rfl ?_
  refine l_arg (v := 1) 4 0 1178 dL_law_1178 dL_law_1179 dL_law_1181 dL_law_1182 dL_law_1183 rfl rfl (by decide) (hin 1 (by decide)) ?_
  refine l_arg (v := 2) 4 0 1184 dL_law_1184 dL_law_1185 dL_law_1187 dL_law_1188 dL_law_1189 rfl rfl (by decide) (hin 2 (by decide)) ?_
  refine l_arg (v := 3) 4 0 1190 dL_law_1190 dL_law_1191 dL_law_1193 dL_law_1194 dL_law_1195 rfl rfl (by decide) (hin 3 (by decide)) ?_
  refine a_aload_n 1 3 (μ := m_L_law) (pc := 1196) dL_law_1196 rfl rfl ?_
  refine a_callH (hh := hh_joins) (h := (g, δ)) (rc' := rc) (rs' := rs) (mc' := 3) (ms' := 18) (As := [.ref x, .int (sc D (i + 1)), .int (sc D (i + 2)), .int (sc D (i + 3)), .ref o]) (rest := []) (μ := m_L_law) (pc := 1197) dL_law_1197 ch_190 rfl (Nat.le_of_ble_eq_true rfl) (d' := d - 1) (by omega) (by omega) (by omega) (c_L_joins (N := N) wt hl (d := d - 1) (by omega) kx ko (kk, δ1) h1 ?_)
  show AW _ _ _ _ _ _ _ _ _ (1197 + 3) _ [.int kk] (g, δ1)
  refine a_istore ((5, .int kk) :: lv0 D x m o i) (μ := m_L_law) (pc := 1200) dL_law_1200 (by decide) rfl ?_
  refine a_aload_n 3 2 (μ := m_L_law) (pc := 1202) dL_law_1202 rfl rfl ?_
  refine l_arg (v := 1) 5 1 1203 dL_law_1203 dL_law_1204 dL_law_1206 dL_law_1207 dL_law_1208 rfl rfl (by decide) (hin 1 (by decide)) ?_
  refine l_arg (v := 2) 5 1 1209 dL_law_1209 dL_law_1210 dL_law_1212 dL_law_1213 dL_law_1214 rfl rfl (by decide) (hin 2 (by decide)) ?_
  refine l_arg (v := 3) 5 1 1215 dL_law_1215 dL_law_1216 dL_law_1218 dL_law_1219 dL_law_1220 rfl rfl (by decide) (hin 3 (by decide)) ?_
  refine a_callV (h := (g, δ1)) (rc' := rc) (rs' := rs) (As := [.int (sc D (i + 1)), .int (sc D (i + 2)), .int (sc D (i + 3))]) (rest := []) (μ := m_L_law) (pc := 1221) dL_law_1221 cv_L_192 rfl km (by decide) rfl (Nat.le_of_ble_eq_true rfl) (d' := d - 1) (by omega) (by omega) (by omega) (c_X12_joins (N := N) wt hl (d := d - 1) (by omega) km (b, δ2) h2 _ _ ?_)
  show AW _ _ _ _ _ _ _ _ _ (1221 + 3) _ [.int b] (g, δ2)
  refine a_istore ((6, .int b) :: (5, .int kk) :: lv0 D x m o i) (μ := m_L_law) (pc := 1224) dL_law_1224 (by decide) rfl ?_
  refine a_goto 1673 (μ := m_L_law) (pc := 1226) dL_law_1226 (by decide) ?_
  exact a_lv [2, 3, 4, 5, 6] rfl K
set_option maxHeartbeats 4000000 in
theorem lw_23 {l : Launch} {D : va_G} {cy : Nat → ClassId} {N d rc rs : Nat} {P : Option Value → hp → Prop} {X : String → hp → Prop} {g : gp} (wt : WT g) (hl : l.stackTraces = false) (hd : 91 ≤ d) {x m o : Nat} {i : Int32} {δ : dp} (kx : q_K g x = 11) (km : q_K g m = 12) (ko : q_K g o = 14) (ho : q_N g o = 1) (hin : ∀ v : Int32, v ∈ [1, 2, 3, 4, 5] → vp_in (i + v) (D.2 102 1)) {kk b : Int32} {δ1 δ2 : dp} (h1 : D_L_runs N g x (sc D (i + 1)) (sc D (i + 2)) o δ = some (kk, δ1)) (h2 : D_X12_runs N g m (sc D (i + 1)) (sc D (i + 2)) δ1 = some (b, δ2)) (K : AW l D cy m_L_law d rc rs P X 1673 (lv0 D x m o i) [] (g, δ2)) : AW l D cy m_L_law d (rc + 3) (rs + 18) P X 1229 (lv0 D x m o i) [] (g, δ) := by
  refine a_wk (rc' := rc + 3) (rs' := rs + 18) (by omega) (by omega) ?_
  refine a_aload_n 3 1 (μ := m_L_law) (pc := 1229) dL_law_1229 rfl rfl ?_
  refine l_arg (v := 1) 4 0 1230 dL_law_1230 dL_law_1231 dL_law_1233 dL_law_1234 dL_law_1235 rfl rfl (by decide) (hin 1 (by decide)) ?_
  refine l_arg (v := 2) 4 0 1236 dL_law_1236 dL_law_1237 dL_law_1239 dL_law_1240 dL_law_1241 rfl rfl (by decide) (hin 2 (by decide)) ?_
  refine a_aload_n 1 3 (μ := m_L_law) (pc := 1242) dL_law_1242 rfl rfl ?_
  refine a_callH (hh := hh_runs) (h := (g, δ)) (rc' := rc) (rs' := rs) (mc' := 2) (ms' := 12) (As := [.ref x, .int (sc D (i + 1)), .int (sc D (i + 2)), .ref o]) (rest := []) (μ := m_L_law) (pc := 1243) dL_law_1243 ch_193 rfl (Nat.le_of_ble_eq_true rfl) (d' := d - 1) (by omega) (by omega) (by omega) (c_L_runs (N := N) wt hl (d := d - 1) (by omega) kx ko (kk, δ1) h1 ?_)
  show AW _ _ _ _ _ _ _ _ _ (1243 + 3) _ [.int kk] (g, δ1)
  refine a_istore ((5, .int kk) :: lv0 D x m o i) (μ := m_L_law) (pc := 1246) dL_law_1246 (by decide) rfl ?_
  refine a_aload_n 3 2 (μ := m_L_law) (pc := 1248) dL_law_1248 rfl rfl ?_
  refine l_arg (v := 1) 5 1 1249 dL_law_1249 dL_law_1250 dL_law_1252 dL_law_1253 dL_law_1254 rfl rfl (by decide) (hin 1 (by decide)) ?_
  refine l_arg (v := 2) 5 1 1255 dL_law_1255 dL_law_1256 dL_law_1258 dL_law_1259 dL_law_1260 rfl rfl (by decide) (hin 2 (by decide)) ?_
  refine a_callV (h := (g, δ1)) (rc' := rc) (rs' := rs) (As := [.int (sc D (i + 1)), .int (sc D (i + 2))]) (rest := []) (μ := m_L_law) (pc := 1261) dL_law_1261 cv_L_195 rfl km (by decide) rfl (Nat.le_of_ble_eq_true rfl) (d' := d - 1) (by omega) (by omega) (by omega) (c_X12_runs (N := N) wt hl (d := d - 1) (by omega) km (b, δ2) h2 _ _ ?_)
  show AW _ _ _ _ _ _ _ _ _ (1261 + 3) _ [.int b] (g, δ2)
  refine a_istore ((6, .int b) :: (5, .int kk) :: lv0 D x m o i) (μ := m_L_law) (pc := 1264) dL_law_1264 (by decide) rfl ?_
  refine a_goto 1673 (μ := m_L_law) (pc := 1266) dL_law_1266 (by decide) ?_
  exact a_lv [2, 3, 4, 5, 6] rfl K
set_option maxHeartbeats 4000000 in
theorem lw_24 {l : Launch} {D : va_G} {cy : Nat → ClassId} {N d rc rs : Nat} {P : Option Value → hp → Prop} {X : String → hp → Prop} {g : gp} (wt : WT g) (hl : l.stackTraces = false) (hd : 91 ≤ d) {x m o : Nat} {i : Int32} {δ : dp} (kx : q_K g x = 11) (km : q_K g m = 12) (ko : q_K g o = 14) (ho : q_N g o = 1) (hin : ∀ v : Int32, v ∈ [1, 2, 3, 4, 5] → vp_in (i + v) (D.2 102 1)) {kk b : Int32} {δ1 δ2 : dp} (h1 : D_L_steals N g x (sc D (i + 1)) (sc D (i + 2)) (sc D (i + 3)) (sc D (i + 4)) o δ = some (kk, δ1)) (h2 : D_X12_steals N g m (sc D (i + 1)) (sc D (i + 2)) (sc D (i + 3)) (sc D (i + 4)) δ1 = some (b, δ2)) (K : AW l D cy m_L_law d rc rs P X 1673 (lv0 D x m o i) [] (g, δ2)) : AW l D cy m_L_law d (rc + 3) (rs + 18) P X 1269 (lv0 D x m o i) [] (g, δ) := by
  refine a_wk (rc' := rc + 3) (rs' := rs + 18) (by omega) (by omega) ?_
  refine a_aload_n 3 1 (μ := m_L_law) (pc := 1269) dL_law_1269 rfl rfl ?_
  refine l_arg (v := 1) 4 0 1270 dL_law_1270 dL_law_1271 dL_law_1273 dL_law_1274 dL_law_1275 rfl rfl (by decide) (hin 1 (by decide)) ?_
  refine l_arg (v := 2) 4 0 1276 dL_law_1276 dL_law_1277 dL_law_1279 dL_law_1280 dL_law_1281 rfl rfl (by decide) (hin 2 (by decide)) ?_
  refine l_arg (v := 3) 4 0 1282 dL_law_1282 dL_law_1283 dL_law_1285 dL_law_1286 dL_law_1287 rfl rfl (by decide) (hin 3 (by decide)) ?_
  refine l_arg (v := 4) 4 0 1288 dL_law_1288 dL_law_1289 dL_law_1291 dL_law_1292 dL_law_1293 rfl rfl (by decide) (hin 4 (by decide)) ?_
  refine a_aload_n 1 3 (μ := m_L_law) (pc := 1294) dL_law_1294 rfl rfl ?_
  refine a_callH (hh := hh_steals) (h := (g, δ)) (rc' := rc) (rs' := rs) (mc' := 3) (ms' := 18) (As := [.ref x, .int (sc D (i + 1)), .int (sc D (i + 2)), .int (sc D (i + 3)), .int (sc D (i + 4)), .ref o]) (rest := []) (μ := m_L_law) (pc := 1295) dL_law_1295 ch_196 rfl (Nat.le_of_ble_eq_true rfl) (d' := d - 1) (by omega) (by omega) (by omega) (c_L_steals (N := N) wt hl (d := d - 1) (by omega) kx ko (kk, δ1) h1 ?_)
  show AW _ _ _ _ _ _ _ _ _ (1295 + 3) _ [.int kk] (g, δ1)
  refine a_istore ((5, .int kk) :: lv0 D x m o i) (μ := m_L_law) (pc := 1298) dL_law_1298 (by decide) rfl ?_
  refine a_aload_n 3 2 (μ := m_L_law) (pc := 1300) dL_law_1300 rfl rfl ?_
  refine l_arg (v := 1) 5 1 1301 dL_law_1301 dL_law_1302 dL_law_1304 dL_law_1305 dL_law_1306 rfl rfl (by decide) (hin 1 (by decide)) ?_
  refine l_arg (v := 2) 5 1 1307 dL_law_1307 dL_law_1308 dL_law_1310 dL_law_1311 dL_law_1312 rfl rfl (by decide) (hin 2 (by decide)) ?_
  refine l_arg (v := 3) 5 1 1313 dL_law_1313 dL_law_1314 dL_law_1316 dL_law_1317 dL_law_1318 rfl rfl (by decide) (hin 3 (by decide)) ?_
  refine l_arg (v := 4) 5 1 1319 dL_law_1319 dL_law_1320 dL_law_1322 dL_law_1323 dL_law_1324 rfl rfl (by decide) (hin 4 (by decide)) ?_
  refine a_callV (h := (g, δ1)) (rc' := rc) (rs' := rs) (As := [.int (sc D (i + 1)), .int (sc D (i + 2)), .int (sc D (i + 3)), .int (sc D (i + 4))]) (rest := []) (μ := m_L_law) (pc := 1325) dL_law_1325 cv_L_198 rfl km (by decide) rfl (Nat.le_of_ble_eq_true rfl) (d' := d - 1) (by omega) (by omega) (by omega) (c_X12_steals (N := N) wt hl (d := d - 1) (by omega) km (b, δ2) h2 _ _ ?_)
  show AW _ _ _ _ _ _ _ _ _ (1325 + 3) _ [.int b] (g, δ2)
  refine a_istore ((6, .int b) :: (5, .int kk) :: lv0 D x m o i) (μ := m_L_law) (pc := 1328) dL_law_1328 (by decide) rfl ?_
  refine a_goto 1673 (μ := m_L_law) (pc := 1330) dL_law_1330 (by decide) ?_
  exact a_lv [2, 3, 4, 5, 6] rfl K
set_option maxHeartbeats 4000000 in
theorem lw_25 {l : Launch} {D : va_G} {cy : Nat → ClassId} {N d rc rs : Nat} {P : Option Value → hp → Prop} {X : String → hp → Prop} {g : gp} (wt : WT g) (hl : l.stackTraces = false) (hd : 91 ≤ d) {x m o : Nat} {i : Int32} {δ : dp} (kx : q_K g x = 11) (km : q_K g m = 12) (ko : q_K g o = 14) (ho : q_N g o = 1) (hin : ∀ v : Int32, v ∈ [1, 2, 3, 4, 5] → vp_in (i + v) (D.2 102 1)) {kk b : Int32} {δ1 δ2 : dp} (h1 : D_L_reached N g x (sc D (i + 1)) o δ = some (kk, δ1)) (h2 : D_X12_reached N g m (sc D (i + 1)) δ1 = some (b, δ2)) (K : AW l D cy m_L_law d rc rs P X 1673 (lv0 D x m o i) [] (g, δ2)) : AW l D cy m_L_law d (rc + 3) (rs + 18) P X 1333 (lv0 D x m o i) [] (g, δ) := by
  refine a_wk (rc' := rc + 3) (rs' := rs + 18) (by omega) (by omega) ?_
  refine a_aload_n 3 1 (μ := m_L_law) (pc := 1333) dL_law_1333 rfl rfl ?_
  refine l_arg (v := 1) 4 0 1334 dL_law_1334 dL_law_1335 dL_law_1337 dL_law_1338 dL_law_1339 rfl rfl (by decide) (hin 1 (by decide)) ?_
  refine a_aload_n 1 3 (μ := m_L_law) (pc := 1340) dL_law_1340 rfl rfl ?_
  refine a_callH (hh := hh_reached) (h := (g, δ)) (rc' := rc) (rs' := rs) (mc' := 1) (ms' := 6) (As := [.ref x, .int (sc D (i + 1)), .ref o]) (rest := []) (μ := m_L_law) (pc := 1341) dL_law_1341 ch_199 rfl (Nat.le_of_ble_eq_true rfl) (d' := d - 1) (by omega) (by omega) (by omega) (c_L_reached (N := N) wt hl (d := d - 1) (by omega) kx ko (kk, δ1) h1 ?_)
  show AW _ _ _ _ _ _ _ _ _ (1341 + 3) _ [.int kk] (g, δ1)
  refine a_istore ((5, .int kk) :: lv0 D x m o i) (μ := m_L_law) (pc := 1344) dL_law_1344 (by decide) rfl ?_
  refine a_aload_n 3 2 (μ := m_L_law) (pc := 1346) dL_law_1346 rfl rfl ?_
  refine l_arg (v := 1) 5 1 1347 dL_law_1347 dL_law_1348 dL_law_1350 dL_law_1351 dL_law_1352 rfl rfl (by decide) (hin 1 (by decide)) ?_
  refine a_callV (h := (g, δ1)) (rc' := rc) (rs' := rs) (As := [.int (sc D (i + 1))]) (rest := []) (μ := m_L_law) (pc := 1353) dL_law_1353 cv_L_201 rfl km (by decide) rfl (Nat.le_of_ble_eq_true rfl) (d' := d - 1) (by omega) (by omega) (by omega) (c_X12_reached (N := N) wt hl (d := d - 1) (by omega) km (b, δ2) h2 _ _ ?_)
  show AW _ _ _ _ _ _ _ _ _ (1353 + 3) _ [.int b] (g, δ2)
  refine a_istore ((6, .int b) :: (5, .int kk) :: lv0 D x m o i) (μ := m_L_law) (pc := 1356) dL_law_1356 (by decide) rfl ?_
  refine a_goto 1673 (μ := m_L_law) (pc := 1358) dL_law_1358 (by decide) ?_
  exact a_lv [2, 3, 4, 5, 6] rfl K
set_option maxHeartbeats 4000000 in
theorem lw_26 {l : Launch} {D : va_G} {cy : Nat → ClassId} {N d rc rs : Nat} {P : Option Value → hp → Prop} {X : String → hp → Prop} {g : gp} (wt : WT g) (hl : l.stackTraces = false) (hd : 91 ≤ d) {x m o : Nat} {i : Int32} {δ : dp} (kx : q_K g x = 11) (km : q_K g m = 12) (ko : q_K g o = 14) (ho : q_N g o = 1) (hin : ∀ v : Int32, v ∈ [1, 2, 3, 4, 5] → vp_in (i + v) (D.2 102 1)) {kk b : Int32} {δ1 δ2 : dp} (h1 : D_L_row N g x (sc D (i + 1)) o δ = some (kk, δ1)) (h2 : D_X12_row N g m (sc D (i + 1)) δ1 = some (b, δ2)) (K : AW l D cy m_L_law d rc rs P X 1673 (lv0 D x m o i) [] (g, δ2)) : AW l D cy m_L_law d (rc + 3) (rs + 18) P X 1361 (lv0 D x m o i) [] (g, δ) := by
  refine a_wk (rc' := rc + 3) (rs' := rs + 18) (by omega) (by omega) ?_
  refine a_aload_n 3 1 (μ := m_L_law) (pc := 1361) dL_law_1361 rfl rfl ?_
  refine l_arg (v := 1) 4 0 1362 dL_law_1362 dL_law_1363 dL_law_1365 dL_law_1366 dL_law_1367 rfl rfl (by decide) (hin 1 (by decide)) ?_
  refine a_aload_n 1 3 (μ := m_L_law) (pc := 1368) dL_law_1368 rfl rfl ?_
  refine a_callH (hh := hh_row) (h := (g, δ)) (rc' := rc) (rs' := rs) (mc' := 1) (ms' := 6) (As := [.ref x, .int (sc D (i + 1)), .ref o]) (rest := []) (μ := m_L_law) (pc := 1369) dL_law_1369 ch_202 rfl (Nat.le_of_ble_eq_true rfl) (d' := d - 1) (by omega) (by omega) (by omega) (c_L_row (N := N) wt hl (d := d - 1) (by omega) kx ko (kk, δ1) h1 ?_)
  show AW _ _ _ _ _ _ _ _ _ (1369 + 3) _ [.int kk] (g, δ1)
  refine a_istore ((5, .int kk) :: lv0 D x m o i) (μ := m_L_law) (pc := 1372) dL_law_1372 (by decide) rfl ?_
  refine a_aload_n 3 2 (μ := m_L_law) (pc := 1374) dL_law_1374 rfl rfl ?_
  refine l_arg (v := 1) 5 1 1375 dL_law_1375 dL_law_1376 dL_law_1378 dL_law_1379 dL_law_1380 rfl rfl (by decide) (hin 1 (by decide)) ?_
  refine a_callV (h := (g, δ1)) (rc' := rc) (rs' := rs) (As := [.int (sc D (i + 1))]) (rest := []) (μ := m_L_law) (pc := 1381) dL_law_1381 cv_L_204 rfl km (by decide) rfl (Nat.le_of_ble_eq_true rfl) (d' := d - 1) (by omega) (by omega) (by omega) (c_X12_row (N := N) wt hl (d := d - 1) (by omega) km (b, δ2) h2 _ _ ?_)
  show AW _ _ _ _ _ _ _ _ _ (1381 + 3) _ [.int b] (g, δ2)
  refine a_istore ((6, .int b) :: (5, .int kk) :: lv0 D x m o i) (μ := m_L_law) (pc := 1384) dL_law_1384 (by decide) rfl ?_
  refine a_goto 1673 (μ := m_L_law) (pc := 1386) dL_law_1386 (by decide) ?_
  exact a_lv [2, 3, 4, 5, 6] rfl K
set_option maxHeartbeats 4000000 in
theorem lw_27 {l : Launch} {D : va_G} {cy : Nat → ClassId} {N d rc rs : Nat} {P : Option Value → hp → Prop} {X : String → hp → Prop} {g : gp} (wt : WT g) (hl : l.stackTraces = false) (hd : 91 ≤ d) {x m o : Nat} {i : Int32} {δ : dp} (kx : q_K g x = 11) (km : q_K g m = 12) (ko : q_K g o = 14) (ho : q_N g o = 1) (hin : ∀ v : Int32, v ∈ [1, 2, 3, 4, 5] → vp_in (i + v) (D.2 102 1)) {kk b : Int32} {δ1 δ2 : dp} (h1 : D_L_rowCall N g x (sc D (i + 1)) (sc D (i + 2)) o δ = some (kk, δ1)) (h2 : D_X12_rowCall N g m (sc D (i + 1)) (sc D (i + 2)) δ1 = some (b, δ2)) (K : AW l D cy m_L_law d rc rs P X 1673 (lv0 D x m o i) [] (g, δ2)) : AW l D cy m_L_law d (rc + 3) (rs + 18) P X 1389 (lv0 D x m o i) [] (g, δ) := by
  refine a_wk (rc' := rc + 3) (rs' := rs + 18) (by omega) (by omega) ?_
  refine a_aload_n 3 1 (μ := m_L_law) (pc := 1389) dL_law_1389 rfl rfl ?_
  refine l_arg (v := 1) 4 0 1390 dL_law_1390 dL_law_1391 dL_law_1393 dL_law_1394 dL_law_1395 rfl rfl (by decide) (hin 1 (by decide)) ?_
  refine l_arg (v := 2) 4 0 1396 dL_law_1396 dL_law_1397 dL_law_1399 dL_law_1400 dL_law_1401 rfl rfl (by decide) (hin 2 (by decide)) ?_
  refine a_aload_n 1 3 (μ := m_L_law) (pc := 1402) dL_law_1402 rfl rfl ?_
  refine a_callH (hh := hh_rowCall) (h := (g, δ)) (rc' := rc) (rs' := rs) (mc' := 1) (ms' := 6) (As := [.ref x, .int (sc D (i + 1)), .int (sc D (i + 2)), .ref o]) (rest := []) (μ := m_L_law) (pc := 1403) dL_law_1403 ch_205 rfl (Nat.le_of_ble_eq_true rfl) (d' := d - 1) (by omega) (by omega) (by omega) (c_L_rowCall (N := N) wt hl (d := d - 1) (by omega) kx ko (kk, δ1) h1 ?_)
  show AW _ _ _ _ _ _ _ _ _ (1403 + 3) _ [.int kk] (g, δ1)
  refine a_istore ((5, .int kk) :: lv0 D x m o i) (μ := m_L_law) (pc := 1406) dL_law_1406 (by decide) rfl ?_
  refine a_aload_n 3 2 (μ := m_L_law) (pc := 1408) dL_law_1408 rfl rfl ?_
  refine l_arg (v := 1) 5 1 1409 dL_law_1409 dL_law_1410 dL_law_1412 dL_law_1413 dL_law_1414 rfl rfl (by decide) (hin 1 (by decide)) ?_
  refine l_arg (v := 2) 5 1 1415 dL_law_1415 dL_law_1416 dL_law_1418 dL_law_1419 dL_law_1420 rfl rfl (by decide) (hin 2 (by decide)) ?_
  refine a_callV (h := (g, δ1)) (rc' := rc) (rs' := rs) (As := [.int (sc D (i + 1)), .int (sc D (i + 2))]) (rest := []) (μ := m_L_law) (pc := 1421) dL_law_1421 cv_L_207 rfl km (by decide) rfl (Nat.le_of_ble_eq_true rfl) (d' := d - 1) (by omega) (by omega) (by omega) (c_X12_rowCall (N := N) wt hl (d := d - 1) (by omega) km (b, δ2) h2 _ _ ?_)
  show AW _ _ _ _ _ _ _ _ _ (1421 + 3) _ [.int b] (g, δ2)
  refine a_istore ((6, .int b) :: (5, .int kk) :: lv0 D x m o i) (μ := m_L_law) (pc := 1424) dL_law_1424 (by decide) rfl ?_
  refine a_goto 1673 (μ := m_L_law) (pc := 1426) dL_law_1426 (by decide) ?_
  exact a_lv [2, 3, 4, 5, 6] rfl K
set_option maxHeartbeats 4000000 in
theorem lw_28 {l : Launch} {D : va_G} {cy : Nat → ClassId} {N d rc rs : Nat} {P : Option Value → hp → Prop} {X : String → hp → Prop} {g : gp} (wt : WT g) (hl : l.stackTraces = false) (hd : 91 ≤ d) {x m o : Nat} {i : Int32} {δ : dp} (kx : q_K g x = 11) (km : q_K g m = 12) (ko : q_K g o = 14) (ho : q_N g o = 1) (hin : ∀ v : Int32, v ∈ [1, 2, 3, 4, 5] → vp_in (i + v) (D.2 102 1)) {kk b : Int32} {δ1 δ2 : dp} (h1 : D_L_split N g x (sc D (i + 1)) (sc D (i + 2)) (sc D (i + 3)) o δ = some (kk, δ1)) (h2 : D_X12_split N g m (sc D (i + 1)) (sc D (i + 2)) (sc D (i + 3)) δ1 = some (b, δ2)) (K : AW l D cy m_L_law d rc rs P X 1673 (lv0 D x m o i) [] (g, δ2)) : AW l D cy m_L_law d (rc + 3) (rs + 18) P X 1429 (lv0 D x m o i) [] (g, δ) := by
  refine a_wk (rc' := rc + 3) (rs' := rs + 18) (by omega) (by omega) ?_
  refine a_aload_n 3 1 (μ := m_L_law) (pc := 1429) dL_law_1429 rfl rfl ?_
  refine l_arg (v := 1) 4 0 1430 dL_law_1430 dL_law_1431 dL_law_1433 dL_law_1434 dL_law_1435 rfl rfl (by decide) (hin 1 (by decide)) ?_
  refine l_arg (v := 2) 4 0 1436 dL_law_1436 dL_law_1437 dL_law_1439 dL_law_1440 dL_law_1441 rfl rfl (by decide) (hin 2 (by decide)) ?_
  refine l_arg (v := 3) 4 0 1442 dL_law_1442 dL_law_1443 dL_law_1445 dL_law_1446 dL_law_1447 rfl rfl (by decide) (hin 3 (by decide)) ?_
  refine a_aload_n 1 3 (μ := m_L_law) (pc := 1448) dL_law_1448 rfl rfl ?_
  refine a_callH (hh := hh_split) (h := (g, δ)) (rc' := rc) (rs' := rs) (mc' := 3) (ms' := 18) (As := [.ref x, .int (sc D (i + 1)), .int (sc D (i + 2)), .int (sc D (i + 3)), .ref o]) (rest := []) (μ := m_L_law) (pc := 1449) dL_law_1449 ch_208 rfl (Nat.le_of_ble_eq_true rfl) (d' := d - 1) (by omega) (by omega) (by omega) (c_L_split (N := N) wt hl (d := d - 1) (by omega) kx ko (kk, δ1) h1 ?_)
  show AW _ _ _ _ _ _ _ _ _ (1449 + 3) _ [.int kk] (g, δ1)
  refine a_istore ((5, .int kk) :: lv0 D x m o i) (μ := m_L_law) (pc := 1452) dL_law_1452 (by decide) rfl ?_
  refine a_aload_n 3 2 (μ := m_L_law) (pc := 1454) dL_law_1454 rfl rfl ?_
  refine l_arg (v := 1) 5 1 1455 dL_law_1455 dL_law_1456 dL_law_1458 dL_law_1459 dL_law_1460 rfl rfl (by decide) (hin 1 (by decide)) ?_
  refine l_arg (v := 2) 5 1 1461 dL_law_1461 dL_law_1462 dL_law_1464 dL_law_1465 dL_law_1466 rfl rfl (by decide) (hin 2 (by decide)) ?_
  refine l_arg (v := 3) 5 1 1467 dL_law_1467 dL_law_1468 dL_law_1470 dL_law_1471 dL_law_1472 rfl rfl (by decide) (hin 3 (by decide)) ?_
  refine a_callV (h := (g, δ1)) (rc' := rc) (rs' := rs) (As := [.int (sc D (i + 1)), .int (sc D (i + 2)), .int (sc D (i + 3))]) (rest := []) (μ := m_L_law) (pc := 1473) dL_law_1473 cv_L_210 rfl km (by decide) rfl (Nat.le_of_ble_eq_true rfl) (d' := d - 1) (by omega) (by omega) (by omega) (c_X12_split (N := N) wt hl (d := d - 1) (by omega) km (b, δ2) h2 _ _ ?_)
  show AW _ _ _ _ _ _ _ _ _ (1473 + 3) _ [.int b] (g, δ2)
  refine a_istore ((6, .int b) :: (5, .int kk) :: lv0 D x m o i) (μ := m_L_law) (pc := 1476) dL_law_1476 (by decide) rfl ?_
  refine a_goto 1673 (μ := m_L_law) (pc := 1478) dL_law_1478 (by decide) ?_
  exact a_lv [2, 3, 4, 5, 6] rfl K
set_option maxHeartbeats 4000000 in
theorem lw_29 {l : Launch} {D : va_G} {cy : Nat → ClassId} {N d rc rs : Nat} {P : Option Value → hp → Prop} {X : String → hp → Prop} {g : gp} (wt : WT g) (hl : l.stackTraces = false) (hd : 91 ≤ d) {x m o : Nat} {i : Int32} {δ : dp} (kx : q_K g x = 11) (km : q_K g m = 12) (ko : q_K g o = 14) (ho : q_N g o = 1) (hin : ∀ v : Int32, v ∈ [1, 2, 3, 4, 5] → vp_in (i + v) (D.2 102 1)) {kk b : Int32} {δ1 δ2 : dp} (h1 : D_L_gap N g x (sc D (i + 1)) (sc D (i + 2)) o δ = some (kk, δ1)) (h2 : D_X12_gap N g m (sc D (i + 1)) (sc D (i + 2)) δ1 = some (b, δ2)) (K : AW l D cy m_L_law d rc rs P X 1673 (lv0 D x m o i) [] (g, δ2)) : AW l D cy m_L_law d (rc + 3) (rs + 18) P X 1481 (lv0 D x m o i) [] (g, δ) := by
  refine a_wk (rc' := rc + 3) (rs' := rs + 18) (by omega) (by omega) ?_
  refine a_aload_n 3 1 (μ := m_L_law) (pc := 1481) dL_law_1481 rfl rfl ?_
  refine l_arg (v := 1) 4 0 1482 dL_law_1482 dL_law_1483 dL_law_1485 dL_law_1486 dL_law_1487 rfl rfl (by decide) (hin 1 (by decide)) ?_
  refine l_arg (v := 2) 4 0 1488 dL_law_1488 dL_law_1489 dL_law_1491 dL_law_1492 dL_law_1493 rfl rfl (by decide) (hin 2 (by decide)) ?_
  refine a_aload_n 1 3 (μ := m_L_law) (pc := 1494) dL_law_1494 rfl rfl ?_
  refine a_callH (hh := hh_gap) (h := (g, δ)) (rc' := rc) (rs' := rs) (mc' := 2) (ms' := 12) (As := [.ref x, .int (sc D (i + 1)), .int (sc D (i + 2)), .ref o]) (rest := []) (μ := m_L_law) (pc := 1495) dL_law_1495 ch_211 rfl (Nat.le_of_ble_eq_true rfl) (d' := d - 1) (by omega) (by omega) (by omega) (c_L_gap (N := N) wt hl (d := d - 1) (by omega) kx ko (kk, δ1) h1 ?_)
  show AW _ _ _ _ _ _ _ _ _ (1495 + 3) _ [.int kk] (g, δ1)
  refine a_istore ((5, .int kk) :: lv0 D x m o i) (μ := m_L_law) (pc := 1498) dL_law_1498 (by decide) rfl ?_
  refine a_aload_n 3 2 (μ := m_L_law) (pc := 1500) dL_law_1500 rfl rfl ?_
  refine l_arg (v := 1) 5 1 1501 dL_law_1501 dL_law_1502 dL_law_1504 dL_law_1505 dL_law_1506 rfl rfl (by decide) (hin 1 (by decide)) ?_
  refine l_arg (v := 2) 5 1 1507 dL_law_1507 dL_law_1508 dL_law_1510 dL_law_1511 dL_law_1512 rfl rfl (by decide) (hin 2 (by decide)) ?_
  refine a_callV (h := (g, δ1)) (rc' := rc) (rs' := rs) (As := [.int (sc D (i + 1)), .int (sc D (i + 2))]) (rest := []) (μ := m_L_law) (pc := 1513) dL_law_1513 cv_L_213 rfl km (by decide) rfl (Nat.le_of_ble_eq_true rfl) (d' := d - 1) (by omega) (by omega) (by omega) (c_X12_gap (N := N) wt hl (d := d - 1) (by omega) km (b, δ2) h2 _ _ ?_)
  show AW _ _ _ _ _ _ _ _ _ (1513 + 3) _ [.int b] (g, δ2)
  refine a_istore ((6, .int b) :: (5, .int kk) :: lv0 D x m o i) (μ := m_L_law) (pc := 1516) dL_law_1516 (by decide) rfl ?_
  refine a_goto 1673 (μ := m_L_law) (pc := 1518) dL_law_1518 (by decide) ?_
  exact a_lv [2, 3, 4, 5, 6] rfl K
set_option maxHeartbeats 4000000 in
theorem lw_30 {l : Launch} {D : va_G} {cy : Nat → ClassId} {N d rc rs : Nat} {P : Option Value → hp → Prop} {X : String → hp → Prop} {g : gp} (wt : WT g) (hl : l.stackTraces = false) (hd : 91 ≤ d) {x m o : Nat} {i : Int32} {δ : dp} (kx : q_K g x = 11) (km : q_K g m = 12) (ko : q_K g o = 14) (ho : q_N g o = 1) (hin : ∀ v : Int32, v ∈ [1, 2, 3, 4, 5] → vp_in (i + v) (D.2 102 1)) {kk b : Int32} {δ1 δ2 : dp} (h1 : D_L_seeds N g x (sc D (i + 1)) (sc D (i + 2)) (sc D (i + 3)) (sc D (i + 4)) (sc D (i + 5)) o δ = some (kk, δ1)) (h2 : D_X12_seeds N g m (sc D (i + 1)) (sc D (i + 2)) (sc D (i + 3)) (sc D (i + 4)) (sc D (i + 5)) δ1 = some (b, δ2)) (K : AW l D cy m_L_law d rc rs P X 1673 (lv0 D x m o i) [] (g, δ2)) : AW l D cy m_L_law d (rc + 3) (rs + 18) P X 1521 (lv0 D x m o i) [] (g, δ) := by
  refine a_wk (rc' := rc + 3) (rs' := rs + 18) (by omega) (by omega) ?_
  refine a_aload_n 3 1 (μ := m_L_law) (pc := 1521) dL_law_1521 rfl rfl ?_
  refine l_arg (v := 1) 4 0 1522 dL_law_1522 dL_law_1523 dL_law_1525 dL_law_1526 dL_law_1527 rfl rfl (by decide) (hin 1 (by decide)) ?_
  refine l_arg (v := 2) 4 0 1528 dL_law_1528 dL_law_1529 dL_law_1531 dL_law_1532 dL_law_1533 rfl rfl (by decide) (hin 2 (by decide)) ?_
  refine l_arg (v := 3) 4 0 1534 dL_law_1534 dL_law_1535 dL_law_1537 dL_law_1538 dL_law_1539 rfl rfl (by decide) (hin 3 (by decide)) ?_
  refine l_arg (v := 4) 4 0 1540 dL_law_1540 dL_law_1541 dL_law_1543 dL_law_1544 dL_law_1545 rfl rfl (by decide) (hin 4 (by decide)) ?_
  refine l_arg (v := 5) 4 0 1546 dL_law_1546 dL_law_1547 dL_law_1549 dL_law_1550 dL_law_1551 rfl rfl (by decide) (hin 5 (by decide)) ?_
  refine a_aload_n 1 3 (μ := m_L_law) (pc := 1552) dL_law_1552 rfl rfl ?_
  refine a_callH (hh := hh_seeds) (h := (g, δ)) (rc' := rc) (rs' := rs) (mc' := 3) (ms' := 18) (As := [.ref x, .int (sc D (i + 1)), .int (sc D (i + 2)), .int (sc D (i + 3)), .int (sc D (i + 4)), .int (sc D (i + 5)), .ref o]) (rest := []) (μ := m_L_law) (pc := 1553) dL_law_1553 ch_214 rfl (Nat.le_of_ble_eq_true rfl) (d' := d - 1) (by omega) (by omega) (by omega) (c_L_seeds (N := N) wt hl (d := d - 1) (by omega) kx ko (kk, δ1) h1 ?_)
  show AW _ _ _ _ _ _ _ _ _ (1553 + 3) _ [.int kk] (g, δ1)
  refine a_istore ((5, .int kk) :: lv0 D x m o i) (μ := m_L_law) (pc := 1556) dL_law_1556 (by decide) rfl ?_
  refine a_aload_n 3 2 (μ := m_L_law) (pc := 1558) dL_law_1558 rfl rfl ?_
  refine l_arg (v := 1) 5 1 1559 dL_law_1559 dL_law_1560 dL_law_1562 dL_law_1563 dL_law_1564 rfl rfl (by decide) (hin 1 (by decide)) ?_
  refine l_arg (v := 2) 5 1 1565 dL_law_1565 dL_law_1566 dL_law_1568 dL_law_1569 dL_law_1570 rfl rfl (by decide) (hin 2 (by decide)) ?_
  refine l_arg (v := 3) 5 1 1571 dL_law_1571 dL_law_1572 dL_law_1574 dL_law_1575 dL_law_1576 rfl rfl (by decide) (hin 3 (by decide)) ?_
  refine l_arg (v := 4) 5 1 1577 dL_law_1577 dL_law_1578 dL_law_1580 dL_law_1581 dL_law_1582 rfl rfl (by decide) (hin 4 (by decide)) ?_
  refine l_arg (v := 5) 5 1 1583 dL_law_1583 dL_law_1584 dL_law_1586 dL_law_1587 dL_law_1588 rfl rfl (by decide) (hin 5 (by decide)) ?_
  refine a_callV (h := (g, δ1)) (rc' := rc) (rs' := rs) (As := [.int (sc D (i + 1)), .int (sc D (i + 2)), .int (sc D (i + 3)), .int (sc D (i + 4)), .int (sc D (i + 5))]) (rest := []) (μ := m_L_law) (pc := 1589) dL_law_1589 cv_L_217 rfl km (by decide) rfl (Nat.le_of_ble_eq_true rfl) (d' := d - 1) (by omega) (by omega) (by omega) (c_X12_seeds (N := N) wt hl (d := d - 1) (by omega) km (b, δ2) h2 _ _ ?_)
  show AW _ _ _ _ _ _ _ _ _ (1589 + 3) _ [.int b] (g, δ2)
  refine a_istore ((6, .int b) :: (5, .int kk) :: lv0 D x m o i) (μ := m_L_law) (pc := 1592) dL_law_1592 (by decide) rfl ?_
  refine a_goto 1673 (μ := m_L_law) (pc := 1594) dL_law_1594 (by decide) ?_
  exact a_lv [2, 3, 4, 5, 6] rfl K
set_option maxHeartbeats 4000000 in
theorem lw_31 {l : Launch} {D : va_G} {cy : Nat → ClassId} {N d rc rs : Nat} {P : Option Value → hp → Prop} {X : String → hp → Prop} {g : gp} (wt : WT g) (hl : l.stackTraces = false) (hd : 91 ≤ d) {x m o : Nat} {i : Int32} {δ : dp} (kx : q_K g x = 11) (km : q_K g m = 12) (ko : q_K g o = 14) (ho : q_N g o = 1) (hin : ∀ v : Int32, v ∈ [1, 2, 3, 4, 5] → vp_in (i + v) (D.2 102 1)) {b b2 : Int32} {δ1 δ2 : dp} (h1 : D_X11_image N g x  δ = some (b, δ1)) (h2 : D_X12_image N g m  δ1 = some (b2, δ2)) (K : AW l D cy m_L_law d rc rs P X 1673 (lv0 D x m o i) [] (g, δ2)) : AW l D cy m_L_law d (rc + 3) (rs + 18) P X 1597 (lv0 D x m o i) [] (g, δ) := by
  refine a_wk (rc' := rc + 3) (rs' := rs + 18) (by omega) (by omega) ?_
  refine a_aload_n 3 1 (μ := m_L_law) (pc := 1597) dL_law_1597 rfl rfl ?_
  refine a_callV (h := (g, δ)) (rc' := rc) (rs' := rs) (As := []) (rest := []) (μ := m_L_law) (pc := 1598) dL_law_1598 cv_L_218 rfl kx (by decide) rfl (Nat.le_of_ble_eq_true rfl) (d' := d - 1) (by omega) (by omega) (by omega) (c_X11_image (N := N) wt hl (d := d - 1) (by omega) kx (b, δ1) h1 _ _ ?_)
  show AW _ _ _ _ _ _ _ _ _ (1598 + 3) _ [.int b] (g, δ1)
  refine a_pop (μ := m_L_law) (pc := 1601) dL_law_1601 rfl ?_
  refine a_aload_n 2 2 (μ := m_L_law) (pc := 1602) dL_law_1602 rfl rfl ?_
  refine a_callV (h := (g, δ1)) (rc' := rc) (rs' := rs) (As := []) (rest := []) (μ := m_L_law) (pc := 1603) dL_law_1603 cv_L_221 rfl km (by decide) rfl (Nat.le_of_ble_eq_true rfl) (d' := d - 1) (by omega) (by omega) (by omega) (c_X12_image (N := N) wt hl (d := d - 1) (by omega) km (b2, δ2) h2 _ _ ?_)
  show AW _ _ _ _ _ _ _ _ _ (1603 + 3) _ [.int b2] (g, δ2)
  refine a_pop (μ := m_L_law) (pc := 1606) dL_law_1606 rfl ?_
  refine a_goto 1673 (μ := m_L_law) (pc := 1607) dL_law_1607 (by decide) ?_
  exact K
set_option maxHeartbeats 4000000 in
theorem lw_32 {l : Launch} {D : va_G} {cy : Nat → ClassId} {N d rc rs : Nat} {P : Option Value → hp → Prop} {X : String → hp → Prop} {g : gp} (wt : WT g) (hl : l.stackTraces = false) (hd : 91 ≤ d) {x m o : Nat} {i : Int32} {δ : dp} (kx : q_K g x = 11) (km : q_K g m = 12) (ko : q_K g o = 14) (ho : q_N g o = 1) (hin : ∀ v : Int32, v ∈ [1, 2, 3, 4, 5] → vp_in (i + v) (D.2 102 1)) {b b2 : Int32} {δ1 δ2 : dp} (h1 : D_X11_restore N g x  δ = some (b, δ1)) (h2 : D_X12_restore N g m  δ1 = some (b2, δ2)) (K : AW l D cy m_L_law d rc rs P X 1673 (lv0 D x m o i) [] (g, δ2)) : AW l D cy m_L_law d (rc + 3) (rs + 18) P X 1610 (lv0 D x m o i) [] (g, δ) := by
  refine a_wk (rc' := rc + 3) (rs' := rs + 18) (by omega) (by omega) ?_
  refine a_aload_n 3 1 (μ := m_L_law) (pc := 1610) dL_law_1610 rfl rfl ?_
  refine a_callV (h := (g, δ)) (rc' := rc) (rs' := rs) (As := []) (rest := []) (μ := m_L_law) (pc := 1611) dL_law_1611 cv_L_222 rfl kx (by decide) rfl (Nat.le_of_ble_eq_true rfl) (d' := d - 1) (by omega) (by omega) (by omega) (c_X11_restore (N := N) wt hl (d := d - 1) (by omega) kx (b, δ1) h1 _ _ ?_)
  show AW _ _ _ _ _ _ _ _ _ (1611 + 3) _ [.int b] (g, δ1)
  refine a_pop (μ := m_L_law) (pc := 1614) dL_law_1614 rfl ?_
  refine a_aload_n 2 2 (μ := m_L_law) (pc := 1615) dL_law_1615 rfl rfl ?_
  refine a_callV (h := (g, δ1)) (rc' := rc) (rs' := rs) (As := []) (rest := []) (μ := m_L_law) (pc := 1616) dL_law_1616 cv_L_225 rfl km (by decide) rfl (Nat.le_of_ble_eq_true rfl) (d' := d - 1) (by omega) (by omega) (by omega) (c_X12_restore (N := N) wt hl (d := d - 1) (by omega) km (b2, δ2) h2 _ _ ?_)
  show AW _ _ _ _ _ _ _ _ _ (1616 + 3) _ [.int b2] (g, δ2)
  refine a_pop (μ := m_L_law) (pc := 1619) dL_law_1619 rfl ?_
  refine a_goto 1673 (μ := m_L_law) (pc := 1620) dL_law_1620 (by decide) ?_
  exact K
set_option maxHeartbeats 4000000 in
theorem lw_33 {l : Launch} {D : va_G} {cy : Nat → ClassId} {N d rc rs : Nat} {P : Option Value → hp → Prop} {X : String → hp → Prop} {g : gp} (wt : WT g) (hl : l.stackTraces = false) (hd : 91 ≤ d) {x m o : Nat} {i : Int32} {δ : dp} (kx : q_K g x = 11) (km : q_K g m = 12) (ko : q_K g o = 14) (ho : q_N g o = 1) (hin : ∀ v : Int32, v ∈ [1, 2, 3, 4, 5] → vp_in (i + v) (D.2 102 1)) {b b2 : Int32} {δ1 δ2 : dp} (h1 : D_X11_status N g x (sc D (i + 1)) δ = some (b, δ1)) (h2 : D_X12_status N g m (sc D (i + 1)) δ1 = some (b2, δ2)) (K : AW l D cy m_L_law d rc rs P X 1673 (lv0 D x m o i) [] (g, δ2)) : AW l D cy m_L_law d (rc + 3) (rs + 18) P X 1623 (lv0 D x m o i) [] (g, δ) := by
  refine a_wk (rc' := rc + 3) (rs' := rs + 18) (by omega) (by omega) ?_
  refine a_aload_n 3 1 (μ := m_L_law) (pc := 1623) dL_law_1623 rfl rfl ?_
  refine l_arg (v := 1) 4 0 1624 dL_law_1624 dL_law_1625 dL_law_1627 dL_law_1628 dL_law_1629 rfl rfl (by decide) (hin 1 (by decide)) ?_
  refine a_callV (h := (g, δ)) (rc' := rc) (rs' := rs) (As := [.int (sc D (i + 1))]) (rest := []) (μ := m_L_law) (pc := 1630) dL_law_1630 cv_L_226 rfl kx (by decide) rfl (Nat.le_of_ble_eq_true rfl) (d' := d - 1) (by omega) (by omega) (by omega) (c_X11_status (N := N) wt hl (d := d - 1) (by omega) kx (b, δ1) h1 _ _ ?_)
  show AW _ _ _ _ _ _ _ _ _ (1630 + 3) _ [.int b] (g, δ1)
  refine a_pop (μ := m_L_law) (pc := 1633) dL_law_1633 rfl ?_
  refine a_aload_n 2 2 (μ := m_L_law) (pc := 1634) dL_law_1634 rfl rfl ?_
  refine l_arg (v := 1) 4 0 1635 dL_law_1635 dL_law_1636 dL_law_1638 dL_law_1639 dL_law_1640 rfl rfl (by decide) (hin 1 (by decide)) ?_
  refine a_callV (h := (g, δ1)) (rc' := rc) (rs' := rs) (As := [.int (sc D (i + 1))]) (rest := []) (μ := m_L_law) (pc := 1641) dL_law_1641 cv_L_229 rfl km (by decide) rfl (Nat.le_of_ble_eq_true rfl) (d' := d - 1) (by omega) (by omega) (by omega) (c_X12_status (N := N) wt hl (d := d - 1) (by omega) km (b2, δ2) h2 _ _ ?_)
  show AW _ _ _ _ _ _ _ _ _ (1641 + 3) _ [.int b2] (g, δ2)
  refine a_pop (μ := m_L_law) (pc := 1644) dL_law_1644 rfl ?_
  refine a_goto 1673 (μ := m_L_law) (pc := 1645) dL_law_1645 (by decide) ?_
  exact K
set_option maxHeartbeats 4000000 in
theorem lw_34 {l : Launch} {D : va_G} {cy : Nat → ClassId} {N d rc rs : Nat} {P : Option Value → hp → Prop} {X : String → hp → Prop} {g : gp} (wt : WT g) (hl : l.stackTraces = false) (hd : 91 ≤ d) {x m o : Nat} {i : Int32} {δ : dp} (kx : q_K g x = 11) (km : q_K g m = 12) (ko : q_K g o = 14) (ho : q_N g o = 1) (hin : ∀ v : Int32, v ∈ [1, 2, 3, 4, 5] → vp_in (i + v) (D.2 102 1)) {b b2 : Int32} {δ1 δ2 : dp} (h1 : D_X11_count N g x (sc D (i + 1)) δ = some (b, δ1)) (h2 : D_X12_count N g m (sc D (i + 1)) δ1 = some (b2, δ2)) (K : AW l D cy m_L_law d rc rs P X 1673 (lv0 D x m o i) [] (g, δ2)) : AW l D cy m_L_law d (rc + 3) (rs + 18) P X 1648 (lv0 D x m o i) [] (g, δ) := by
  refine a_wk (rc' := rc + 3) (rs' := rs + 18) (by omega) (by omega) ?_
  refine a_aload_n 3 1 (μ := m_L_law) (pc := 1648) dL_law_1648 rfl rfl ?_
  refine l_arg (v := 1) 4 0 1649 dL_law_1649 dL_law_1650 dL_law_1652 dL_law_1653 dL_law_1654 rfl rfl (by decide) (hin 1 (by decide)) ?_
  refine a_callV (h := (g, δ)) (rc' := rc) (rs' := rs) (As := [.int (sc D (i + 1))]) (rest := []) (μ := m_L_law) (pc := 1655) dL_law_1655 cv_L_230 rfl kx (by decide) rfl (Nat.le_of_ble_eq_true rfl) (d' := d - 1) (by omega) (by omega) (by omega) (c_X11_count (N := N) wt hl (d := d - 1) (by omega) kx (b, δ1) h1 _ _ ?_)
  show AW _ _ _ _ _ _ _ _ _ (1655 + 3) _ [.int b] (g, δ1)
  refine a_pop (μ := m_L_law) (pc := 1658) dL_law_1658 rfl ?_
  refine a_aload_n 2 2 (μ := m_L_law) (pc := 1659) dL_law_1659 rfl rfl ?_
  refine l_arg (v := 1) 4 0 1660 dL_law_1660 dL_law_1661 dL_law_1663 dL_law_1664 dL_law_1665 rfl rfl (by decide) (hin 1 (by decide)) ?_
  refine a_callV (h := (g, δ1)) (rc' := rc) (rs' := rs) (As := [.int (sc D (i + 1))]) (rest := []) (μ := m_L_law) (pc := 1666) dL_law_1666 cv_L_233 rfl km (by decide) rfl (Nat.le_of_ble_eq_true rfl) (d' := d - 1) (by omega) (by omega) (by omega) (c_X12_count (N := N) wt hl (d := d - 1) (by omega) km (b2, δ2) h2 _ _ ?_)
  show AW _ _ _ _ _ _ _ _ _ (1666 + 3) _ [.int b2] (g, δ2)
  refine a_pop (μ := m_L_law) (pc := 1669) dL_law_1669 rfl ?_
  refine a_goto 1673 (μ := m_L_law) (pc := 1670) dL_law_1670 (by decide) ?_
  exact K
