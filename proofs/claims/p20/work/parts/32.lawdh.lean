section
theorem bL_law_1642 : ((ByteArray.data cL_law).toList.drop 1642 |>.take 24).map UInt8.toNat = [42, 21, 4, 4, 96, 46, 182, 0, 230, 87, 44, 42, 21, 4, 4, 96, 46, 182, 0, 233, 87, 167, 0, 3] := by decide +kernel
theorem dL_law_1642 : decode cL_law 1642 = .ok (.aload_n 0, 1) := op_42 (bytt bL_law_1642 0 rfl)
theorem dL_law_1643 : decode cL_law 1643 = .ok (.iload 4, 2) := op_21 (bytt bL_law_1642 1 rfl) (bytt bL_law_1642 2 rfl)
theorem dL_law_1645 : decode cL_law 1645 = .ok (.iconst 1, 1) := op_4 (bytt bL_law_1642 3 rfl)
theorem dL_law_1646 : decode cL_law 1646 = .ok (.iadd, 1) := op_96 (bytt bL_law_1642 4 rfl)
theorem dL_law_1647 : decode cL_law 1647 = .ok (.iaload, 1) := op_46 (bytt bL_law_1642 5 rfl)
theorem dL_law_1648 : decode cL_law 1648 = .ok (.invokevirtual 230, 3) := op_182 (bytt bL_law_1642 6 rfl) (bytt bL_law_1642 7 rfl) (bytt bL_law_1642 8 rfl) rfl
theorem dL_law_1651 : decode cL_law 1651 = .ok (.pop, 1) := op_87 (bytt bL_law_1642 9 rfl)
theorem dL_law_1652 : decode cL_law 1652 = .ok (.aload_n 2, 1) := op_44 (bytt bL_law_1642 10 rfl)
theorem dL_law_1653 : decode cL_law 1653 = .ok (.aload_n 0, 1) := op_42 (bytt bL_law_1642 11 rfl)
theorem dL_law_1654 : decode cL_law 1654 = .ok (.iload 4, 2) := op_21 (bytt bL_law_1642 12 rfl) (bytt bL_law_1642 13 rfl)
theorem dL_law_1656 : decode cL_law 1656 = .ok (.iconst 1, 1) := op_4 (bytt bL_law_1642 14 rfl)
theorem dL_law_1657 : decode cL_law 1657 = .ok (.iadd, 1) := op_96 (bytt bL_law_1642 15 rfl)
theorem dL_law_1658 : decode cL_law 1658 = .ok (.iaload, 1) := op_46 (bytt bL_law_1642 16 rfl)
theorem dL_law_1659 : decode cL_law 1659 = .ok (.invokevirtual 233, 3) := op_182 (bytt bL_law_1642 17 rfl) (bytt bL_law_1642 18 rfl) (bytt bL_law_1642 19 rfl) rfl
theorem dL_law_1662 : decode cL_law 1662 = .ok (.pop, 1) := op_87 (bytt bL_law_1642 20 rfl)
theorem dL_law_1663 : decode cL_law 1663 = .ok (.goto 3, 3) := op_167 (bytt bL_law_1642 21 rfl) (bytt bL_law_1642 22 rfl) (bytt bL_law_1642 23 rfl) rfl
theorem bL_law_1666 : ((ByteArray.data cL_law).toList.drop 1666 |>.take 8).map UInt8.toNat = [132, 4, 6, 167, 249, 146, 4, 172] := by decide +kernel
theorem dL_law_1666 : decode cL_law 1666 = .ok (.iinc 4 6, 3) := op_132 (bytt bL_law_1666 0 rfl) (bytt bL_law_1666 1 rfl) (bytt bL_law_1666 2 rfl) rfl
theorem dL_law_1669 : decode cL_law 1669 = .ok (.goto (-1646), 3) := op_167 (bytt bL_law_1666 3 rfl) (bytt bL_law_1666 4 rfl) (bytt bL_law_1666 5 rfl) rfl
theorem dL_law_1672 : decode cL_law 1672 = .ok (.iconst 1, 1) := op_4 (bytt bL_law_1666 6 rfl)
theorem dL_law_1673 : decode cL_law 1673 = .ok (.ireturn, 1) := op_172 (bytt bL_law_1666 7 rfl)
end
section
/-! the law's cases (by gen_law.py) -/
abbrev m_L_law : mth := (yL_law, cL_law, 7, some .boolean)
def sc (D : va_G) (j : Int32) : Int32 := Int32.ofNat (D.2 103 j.toNatClampNeg)
def lv0 (D : va_G) (x m o : Nat) (i : Int32) : List (Nat × Value) := [(4, .int i), (3, .ref o), (2, .ref m), (1, .ref x), (0, .ref (D.2 102 0))]
theorem lg_self (a : Int64) : lg_cmp a a = 0 := by
  unfold lg_cmp
  first
    | (simp; done)
    | (rw [if_neg (by simp), if_neg (by simp)]; done)
    | (split <;> simp_all)
theorem z_nat : (0 : Int32).toNatClampNeg = 0 := by decide
section LA
variable {l : Launch} {D : va_G} {cy : Nat → ClassId} {μ : mth} {d rc rs : Nat} {P : Option Value → hp → Prop} {X : String → hp → Prop} {lv : List (Nat × Value)} {st : List Value} {h : hp}
theorem l_arg {k : Int} {v i : Int32} (p0 p4 pc : Nat) (d0 : decode μ.2.1 pc = .ok (.aload_n 0, 1)) (d1 : decode μ.2.1 (pc + 1) = .ok (.iload 4, 2)) (d2 : decode μ.2.1 (pc + 3) = .ok (.iconst k, 1)) (d3 : decode μ.2.1 (pc + 4) = .ok (.iadd, 1)) (d4 : decode μ.2.1 (pc + 5) = .ok (.iaload, 1)) (hk0 : lv[p0]? = some (0, .ref (D.2 102 0))) (hk4 : lv[p4]? = some (4, .int i)) (hv : Int32.ofInt k = v) (hin : vp_in (i + v) (D.2 102 1)) (kk : AW l D cy μ d rc rs P X (pc + 6) lv (.int (sc D (i + v)) :: st) h) : AW l D cy μ d rc rs P X pc lv st h := by
  refine a_aload_n p0 0 d0 rfl hk0 ?_
  refine a_iload (pc := pc + 1) p4 d1 hk4 ?_
  refine a_iconst (pc := pc + 3) (v := v) d2 hv ?_
  refine a_iadd (pc := pc + 4) d3 ?_
  exact a_sld (pc := pc + 5) d4 hin kk
end LA
set_option maxHeartbeats 4000000 in
theorem lw_0 {l : Launch} {D : va_G} {cy : Nat → ClassId} {N d rc rs : Nat} {P : Option Value → hp → Prop} {X : String → hp → Prop} {g : gp} (wt : WT g) (hl : l.stackTraces = false) (hd : 91 ≤ d) {x m o : Nat} {i : Int32} {δ : dp} (kx : q_K g x = 11) (km : q_K g m = 12) (ko : q_K g o = 14) (ho : q_N g o = 1) (hin : ∀ v : Int32, v ∈ [1, 2, 3, 4, 5] → vp_in (i + v) (D.2 102 1)) {b b2 : Int32} {δ1 δ2 : dp} (h1 : D_X11_feed N g x (sc D (i + 1)) (sc D (i + 2)) (sc D (i + 3)) (sc D (i + 4)) (sc D (i + 5)) δ = some (b, δ1)) (h2 : D_X12_feed N g m (sc D (i + 1)) (sc D (i + 2)) (sc D (i + 3)) (sc D (i + 4)) (sc D (i + 5)) δ1 = some (b2, δ2)) (K : AW l D cy m_L_law d rc rs P X 1666 (lv0 D x m o i) [] (g, δ2)) : AW l D cy m_L_law d (rc + 3) (rs + 18) P X 196 (lv0 D x m o i) [] (g, δ) := by
  refine a_wk (rc' := rc + 3) (rs' := rs + 18) (by omega) (by omega) ?_
  refine a_aload_n 3 1 (μ := m_L_law) (pc := 196) dL_law_196 rfl rfl ?_
  refine l_arg (v := 1) 4 0 197 dL_law_197 dL_law_198 dL_law_200 dL_law_201 dL_law_202 rfl rfl (by decide) (hin 1 (by decide)) ?_
  refine l_arg (v := 2) 4 0 203 dL_law_203 dL_law_204 dL_law_206 dL_law_207 dL_law_208 rfl rfl (by decide) (hin 2 (by decide)) ?_
  refine l_arg (v := 3) 4 0 209 dL_law_209 dL_law_210 dL_law_212 dL_law_213 dL_law_214 rfl rfl (by decide) (hin 3 (by decide)) ?_
  refine l_arg (v := 4) 4 0 215 dL_law_215 dL_law_216 dL_law_218 dL_law_219 dL_law_220 rfl rfl (by decide) (hin 4 (by decide)) ?_
  refine l_arg (v := 5) 4 0 221 dL_law_221 dL_law_222 dL_law_224 dL_law_225 dL_law_226 rfl rfl (by decide) (hin 5 (by decide)) ?_
  refine a_callV (h := (g, δ)) (rc' := rc) (rs' := rs) (As := [.int (sc D (i + 1)), .int (sc D (i + 2)), .int (sc D (i + 3)), .int (sc D (i + 4)), .int (sc D (i + 5))]) (rest := []) (μ := m_L_law) (pc := 227) dL_law_227 cv_L_112 rfl kx (by decide) rfl (Nat.le_of_ble_eq_true rfl) (d' := d - 1) (by omega) (by omega) (by omega) (c_X11_feed (N := N) wt hl (d := d - 1) (by omega) kx (b, δ1) h1 _ _ ?_)
  show AW _ _ _ _ _ _ _ _ _ (227 + 3) _ [.int b] (g, δ1)
  refine a_pop (μ := m_L_law) (pc := 230) dL_law_230 rfl ?_
  refine a_aload_n 2 2 (μ := m_L_law) (pc := 231) dL_law_231 rfl rfl ?_
  refine l_arg (v := 1) 4 0 232 dL_law_232 dL_law_233 dL_law_235 dL_law_236 dL_law_237 rfl rfl (by decide) (hin 1 (by decide)) ?_
  refine l_arg (v := 2) 4 0 238 dL_law_238 dL_law_239 dL_law_241 dL_law_242 dL_law_243 rfl rfl (by decide) (hin 2 (by decide)) ?_
  refine l_arg (v := 3) 4 0 244 dL_law_244 dL_law_245 dL_law_247 dL_law_248 dL_law_249 rfl rfl (by decide) (hin 3 (by decide)) ?_
  refine l_arg (v := 4) 4 0 250 dL_law_250 dL_law_251 dL_law_253 dL_law_254 dL_law_255 rfl rfl (by decide) (hin 4 (by decide)) ?_
  refine l_arg (v := 5) 4 0 256 dL_law_256 dL_law_257 dL_law_259 dL_law_260 dL_law_261 rfl rfl (by decide) (hin 5 (by decide)) ?_
  refine a_callV (h := (g, δ1)) (rc' := rc) (rs' := rs) (As := [.int (sc D (i + 1)), .int (sc D (i + 2)), .int (sc D (i + 3)), .int (sc D (i + 4)), .int (sc D (i + 5))]) (rest := []) (μ := m_L_law) (pc := 262) dL_law_262 cv_L_115 rfl km (by decide) rfl (Nat.le_of_ble_eq_true rfl) (d' := d - 1) (by omega) (by omega) (by omega) (c_X12_feed (N := N) wt hl (d := d - 1) (by omega) km (b2, δ2) h2 _ _ ?_)
  show AW _ _ _ _ _ _ _ _ _ (262 + 3) _ [.int b2] (g, δ2)
  refine a_pop (μ := m_L_law) (pc := 265) dL_law_265 rfl ?_
  refine a_goto 1666 (μ := m_L_law) (pc := 266) dL_law_266 (by decide) ?_
  exact K
set_option maxHeartbeats 4000000 in
theorem lw_1 {l : Launch} {D : va_G} {cy : Nat → ClassId} {N d rc rs : Nat} {P : Option Value → hp → Prop} {X : String → hp → Prop} {g : gp} (wt : WT g) (hl : l.stackTraces = false) (hd : 91 ≤ d) {x m o : Nat} {i : Int32} {δ : dp} (kx : q_K g x = 11) (km : q_K g m = 12) (ko : q_K g o = 14) (ho : q_N g o = 1) (hin : ∀ v : Int32, v ∈ [1, 2, 3, 4, 5] → vp_in (i + v) (D.2 102 1)) {kk b : Int32} {δ1 δ2 : dp} (h1 : D_L_shape N g x (sc D (i + 1)) o δ = some (kk, δ1)) (h2 : D_X12_shape N g m (sc D (i + 1)) δ1 = some (b, δ2)) (K : AW l D cy m_L_law d rc rs P X 1666 (lv0 D x m o i) [] (g, δ2)) : AW l D cy m_L_law d (rc + 3) (rs + 18) P X 269 (lv0 D x m o i) [] (g, δ) := by
  refine a_wk (rc' := rc + 3) (rs' := rs + 18) (by omega) (by omega) ?_
  refine a_aload_n 3 1 (μ := m_L_law) (pc := 269) dL_law_269 rfl rfl ?_
  refine l_arg (v := 1) 4 0 270 dL_law_270 dL_law_271 dL_law_273 dL_law_274 dL_law_275 rfl rfl (by decide) (hin 1 (by decide)) ?_
  refine a_aload_n 1 3 (μ := m_L_law) (pc := 276) dL_law_276 rfl rfl ?_
  refine a_callH (hh := hh_shape) (h := (g, δ)) (rc' := rc) (rs' := rs) (mc' := 1) (ms' := 6) (As := [.ref x, .int (sc D (i + 1)), .ref o]) (rest := []) (μ := m_L_law) (pc := 277) dL_law_277 ch_116 rfl (Nat.le_of_ble_eq_true rfl) (d' := d - 1) (by omega) (by omega) (by omega) (c_L_shape (N := N) wt hl (d := d - 1) (by omega) kx ko (kk, δ1) h1 ?_)
  show AW _ _ _ _ _ _ _ _ _ (277 + 3) _ [.int kk] (g, δ1)
  refine a_istore ((5, .int kk) :: lv0 D x m o i) (μ := m_L_law) (pc := 280) dL_law_280 (by decide) rfl ?_
  refine a_aload_n 3 2 (μ := m_L_law) (pc := 282) dL_law_282 rfl rfl ?_
  refine l_arg (v := 1) 5 1 283 dL_law_283 dL_law_284 dL_law_286 dL_law_287 dL_law_288 rfl rfl (by decide) (hin 1 (by decide)) ?_
  refine a_callV (h := (g, δ1)) (rc' := rc) (rs' := rs) (As := [.int (sc D (i + 1))]) (rest := []) (μ := m_L_law) (pc := 289) dL_law_289 cv_L_121 rfl km (by decide) rfl (Nat.le_of_ble_eq_true rfl) (d' := d - 1) (by omega) (by omega) (by omega) (c_X12_shape (N := N) wt hl (d := d - 1) (by omega) km (b, δ2) h2 _ _ ?_)
  show AW _ _ _ _ _ _ _ _ _ (289 + 3) _ [.int b] (g, δ2)
  refine a_istore ((6, .int b) :: (5, .int kk) :: lv0 D x m o i) (μ := m_L_law) (pc := 292) dL_law_292 (by decide) rfl ?_
  refine a_goto 1666 (μ := m_L_law) (pc := 294) dL_law_294 (by decide) ?_
  exact a_lv [2, 3, 4, 5, 6] rfl K
set_option maxHeartbeats 4000000 in
theorem lw_2 {l : Launch} {D : va_G} {cy : Nat → ClassId} {N d rc rs : Nat} {P : Option Value → hp → Prop} {X : String → hp → Prop} {g : gp} (wt : WT g) (hl : l.stackTraces = false) (hd : 91 ≤ d) {x m o : Nat} {i : Int32} {δ : dp} (kx : q_K g x = 11) (km : q_K g m = 12) (ko : q_K g o = 14) (ho : q_N g o = 1) (hin : ∀ v : Int32, v ∈ [1, 2, 3, 4, 5] → vp_in (i + v) (D.2 102 1)) {kk b : Int32} {δ1 δ2 : dp} (h1 : D_L_thief N g x (sc D (i + 1)) o δ = some (kk, δ1)) (h2 : D_X12_thief N g m (sc D (i + 1)) δ1 = some (b, δ2)) (K : AW l D cy m_L_law d rc rs P X 1666 (lv0 D x m o i) [] (g, δ2)) : AW l D cy m_L_law d (rc + 3) (rs + 18) P X 297 (lv0 D x m o i) [] (g, δ) := by
  refine a_wk (rc' := rc + 3) (rs' := rs + 18) (by omega) (by omega) ?_
  refine a_aload_n 3 1 (μ := m_L_law) (pc := 297) dL_law_297 rfl rfl ?_
  refine l_arg (v := 1) 4 0 298 dL_law_298 dL_law_299 dL_law_301 dL_law_302 dL_law_303 rfl rfl (by decide) (hin 1 (by decide)) ?_
  refine a_aload_n 1 3 (μ := m_L_law) (pc := 304) dL_law_304 rfl rfl ?_
  refine a_callH (hh := hh_thief) (h := (g, δ)) (rc' := rc) (rs' := rs) (mc' := 1) (ms' := 6) (As := [.ref x, .int (sc D (i + 1)), .ref o]) (rest := []) (μ := m_L_law) (pc := 305) dL_law_305 ch_122 rfl (Nat.le_of_ble_eq_true rfl) (d' := d - 1) (by omega) (by omega) (by omega) (c_L_thief (N := N) wt hl (d := d - 1) (by omega) kx ko (kk, δ1) h1 ?_)
  show AW _ _ _ _ _ _ _ _ _ (305 + 3) _ [.int kk] (g, δ1)
  refine a_istore ((5, .int kk) :: lv0 D x m o i) (μ := m_L_law) (pc := 308) dL_law_308 (by decide) rfl ?_
  refine a_aload_n 3 2 (μ := m_L_law) (pc := 310) dL_law_310 rfl rfl ?_
  refine l_arg (v := 1) 5 1 311 dL_law_311 dL_law_312 dL_law_314 dL_law_315 dL_law_316 rfl rfl (by decide) (hin 1 (by decide)) ?_
  refine a_callV (h := (g, δ1)) (rc' := rc) (rs' := rs) (As := [.int (sc D (i + 1))]) (rest := []) (μ := m_L_law) (pc := 317) dL_law_317 cv_L_124 rfl km (by decide) rfl (Nat.le_of_ble_eq_true rfl) (d' := d - 1) (by omega) (by omega) (by omega) (c_X12_thief (N := N) wt hl (d := d - 1) (by omega) km (b, δ2) h2 _ _ ?_)
  show AW _ _ _ _ _ _ _ _ _ (317 + 3) _ [.int b] (g, δ2)
  refine a_istore ((6, .int b) :: (5, .int kk) :: lv0 D x m o i) (μ := m_L_law) (pc := 320) dL_law_320 (by decide) rfl ?_
  refine a_goto 1666 (μ := m_L_law) (pc := 322) dL_law_322 (by decide) ?_
  exact a_lv [2, 3, 4, 5, 6] rfl K
set_option maxHeartbeats 4000000 in
theorem lw_3 {l : Launch} {D : va_G} {cy : Nat → ClassId} {N d rc rs : Nat} {P : Option Value → hp → Prop} {X : String → hp → Prop} {g : gp} (wt : WT g) (hl : l.stackTraces = false) (hd : 91 ≤ d) {x m o : Nat} {i : Int32} {δ : dp} (kx : q_K g x = 11) (km : q_K g m = 12) (ko : q_K g o = 14) (ho : q_N g o = 1) (hin : ∀ v : Int32, v ∈ [1, 2, 3, 4, 5] → vp_in (i + v) (D.2 102 1)) {b b2 : Int32} {δ1 δ2 : dp} (h1 : D_X11_fault N g x  δ = some (b, δ1)) (h2 : D_X12_fault N g m  δ1 = some (b2, δ2)) (K : AW l D cy m_L_law d rc rs P X 1666 (lv0 D x m o i) [] (g, δ2)) : AW l D cy m_L_law d (rc + 3) (rs + 18) P X 325 (lv0 D x m o i) [] (g, δ) := by
  refine a_wk (rc' := rc + 3) (rs' := rs + 18) (by omega) (by omega) ?_
  refine a_aload_n 3 1 (μ := m_L_law) (pc := 325) dL_law_325 rfl rfl ?_
  refine a_callV (h := (g, δ)) (rc' := rc) (rs' := rs) (As := []) (rest := []) (μ := m_L_law) (pc := 326) dL_law_326 cv_L_125 rfl kx (by decide) rfl (Nat.le_of_ble_eq_true rfl) (d' := d - 1) (by omega) (by omega) (by omega) (c_X11_fault (N := N) wt hl (d := d - 1) (by omega) kx (b, δ1) h1 _ _ ?_)
  show AW _ _ _ _ _ _ _ _ _ (326 + 3) _ [.int b] (g, δ1)
  refine a_pop (μ := m_L_law) (pc := 329) dL_law_329 rfl ?_
  refine a_aload_n 2 2 (μ := m_L_law) (pc := 330) dL_law_330 rfl rfl ?_
  refine a_callV (h := (g, δ1)) (rc' := rc) (rs' := rs) (As := []) (rest := []) (μ := m_L_law) (pc := 331) dL_law_331 cv_L_129 rfl km (by decide) rfl (Nat.le_of_ble_eq_true rfl) (d' := d - 1) (by omega) (by omega) (by omega) (c_X12_fault (N := N) wt hl (d := d - 1) (by omega) km (b2, δ2) h2 _ _ ?_)
  show AW _ _ _ _ _ _ _ _ _ (331 + 3) _ [.int b2] (g, δ2)
  refine a_pop (μ := m_L_law) (pc := 334) dL_law_334 rfl ?_
  refine a_goto 1666 (μ := m_L_law) (pc := 335) dL_law_335 (by decide) ?_
  exact K
set_option maxHeartbeats 4000000 in
theorem lw_4 {l : Launch} {D : va_G} {cy : Nat → ClassId} {N d rc rs : Nat} {P : Option Value → hp → Prop} {X : String → hp → Prop} {g : gp} (wt : WT g) (hl : l.stackTraces = false) (hd : 91 ≤ d) {x m o : Nat} {i : Int32} {δ : dp} (kx : q_K g x = 11) (km : q_K g m = 12) (ko : q_K g o = 14) (ho : q_N g o = 1) (hin : ∀ v : Int32, v ∈ [1, 2, 3, 4, 5] → vp_in (i + v) (D.2 102 1)) {kk b : Int32} {δ1 δ2 : dp} (h1 : D_L_told N g x (sc D (i + 1)) o δ = some (kk, δ1)) (h2 : D_X12_told N g m (sc D (i + 1)) δ1 = some (b, δ2)) (K : AW l D cy m_L_law d rc rs P X 1666 (lv0 D x m o i) [] (g, δ2)) : AW l D cy m_L_law d (rc + 3) (rs + 18) P X 338 (lv0 D x m o i) [] (g, δ) := by
  refine a_wk (rc' := rc + 3) (rs' := rs + 18) (by omega) (by omega) ?_
  refine a_aload_n 3 1 (μ := m_L_law) (pc := 338) dL_law_338 rfl rfl ?_
  refine l_arg (v := 1) 4 0 339 dL_law_339 dL_law_340 dL_law_342 dL_law_343 dL_law_344 rfl rfl (by decide) (hin 1 (by decide)) ?_
  refine a_aload_n 1 3 (μ := m_L_law) (pc := 345) dL_law_345 rfl rfl ?_
  refine a_callH (hh := hh_told) (h := (g, δ)) (rc' := rc) (rs' := rs) (mc' := 1) (ms' := 6) (As := [.ref x, .int (sc D (i + 1)), .ref o]) (rest := []) (μ := m_L_law) (pc := 346) dL_law_346 ch_130 rfl (Nat.le_of_ble_eq_true rfl) (d' := d - 1) (by omega) (by omega) (by omega) (c_L_told (N := N) wt hl (d := d - 1) (by omega) kx ko (kk, δ1) h1 ?_)
  show AW _ _ _ _ _ _ _ _ _ (346 + 3) _ [.int kk] (g, δ1)
  refine a_istore ((5, .int kk) :: lv0 D x m o i) (μ := m_L_law) (pc := 349) dL_law_349 (by decide) rfl ?_
  refine a_aload_n 3 2 (μ := m_L_law) (pc := 351) dL_law_351 rfl rfl ?_
  refine l_arg (v := 1) 5 1 352 dL_law_352 dL_law_353 dL_law_355 dL_law_356 dL_law_357 rfl rfl (by decide) (hin 1 (by decide)) ?_
  refine a_callV (h := (g, δ1)) (rc' := rc) (rs' := rs) (As := [.int (sc D (i + 1))]) (rest := []) (μ := m_L_law) (pc := 358) dL_law_358 cv_L_132 rfl km (by decide) rfl (Nat.le_of_ble_eq_true rfl) (d' := d - 1) (by omega) (by omega) (by omega) (c_X12_told (N := N) wt hl (d := d - 1) (by omega) km (b, δ2) h2 _ _ ?_)
  show AW _ _ _ _ _ _ _ _ _ (358 + 3) _ [.int b] (g, δ2)
  refine a_istore ((6, .int b) :: (5, .int kk) :: lv0 D x m o i) (μ := m_L_law) (pc := 361) dL_law_361 (by decide) rfl ?_
  refine a_goto 1666 (μ := m_L_law) (pc := 363) dL_law_363 (by decide) ?_
  exact a_lv [2, 3, 4, 5, 6] rfl K
set_option maxHeartbeats 4000000 in
theorem lw_5 {l : Launch} {D : va_G} {cy : Nat → ClassId} {N d rc rs : Nat} {P : Option Value → hp → Prop} {X : String → hp → Prop} {g : gp} (wt : WT g) (hl : l.stackTraces = false) (hd : 91 ≤ d) {x m o : Nat} {i : Int32} {δ : dp} (kx : q_K g x = 11) (km : q_K g m = 12) (ko : q_K g o = 14) (ho : q_N g o = 1) (hin : ∀ v : Int32, v ∈ [1, 2, 3, 4, 5] → vp_in (i + v) (D.2 102 1)) {kk b : Int32} {δ1 δ2 : dp} (h1 : D_L_put N g x (sc D (i + 1)) (sc D (i + 2)) o δ = some (kk, δ1)) (h2 : D_X12_put N g m (sc D (i + 1)) (sc D (i + 2)) δ1 = some (b, δ2)) (K : AW l D cy m_L_law d rc rs P X 1666 (lv0 D x m o i) [] (g, δ2)) : AW l D cy m_L_law d (rc + 3) (rs + 18) P X 366 (lv0 D x m o i) [] (g, δ) := by
  refine a_wk (rc' := rc + 3) (rs' := rs + 18) (by omega) (by omega) ?_
  refine a_aload_n 3 1 (μ := m_L_law) (pc := 366) dL_law_366 rfl rfl ?_
  refine l_arg (v := 1) 4 0 367 dL_law_367 dL_law_368 dL_law_370 dL_law_371 dL_law_372 rfl rfl (by decide) (hin 1 (by decide)) ?_
  refine l_arg (v := 2) 4 0 373 dL_law_373 dL_law_374 dL_law_376 dL_law_377 dL_law_378 rfl rfl (by decide) (hin 2 (by decide)) ?_
  refine a_aload_n 1 3 (μ := m_L_law) (pc := 379) dL_law_379 rfl rfl ?_
  refine a_callH (hh := hh_put) (h := (g, δ)) (rc' := rc) (rs' := rs) (mc' := 2) (ms' := 12) (As := [.ref x, .int (sc D (i + 1)), .int (sc D (i + 2)), .ref o]) (rest := []) (μ := m_L_law) (pc := 380) dL_law_380 ch_133 rfl (Nat.le_of_ble_eq_true rfl) (d' := d - 1) (by omega) (by omega) (by omega) (c_L_put (N := N) wt hl (d := d - 1) (by omega) kx ko (kk, δ1) h1 ?_)
  show AW _ _ _ _ _ _ _ _ _ (380 + 3) _ [.int kk] (g, δ1)
  refine a_istore ((5, .int kk) :: lv0 D x m o i) (μ := m_L_law) (pc := 383) dL_law_383 (by decide) rfl ?_
  refine a_aload_n 3 2 (μ := m_L_law) (pc := 385) dL_law_385 rfl rfl ?_
  refine l_arg (v := 1) 5 1 386 dL_law_386 dL_law_387 dL_law_389 dL_law_390 dL_law_391 rfl rfl (by decide) (hin 1 (by decide)) ?_
  refine l_arg (v := 2) 5 1 392 dL_law_392 dL_law_393 dL_law_395 dL_law_396 dL_law_397 rfl rfl (by decide) (hin 2 (by decide)) ?_
  refine a_callV (h := (g, δ1)) (rc' := rc) (rs' := rs) (As := [.int (sc D (i + 1)), .int (sc D (i + 2))]) (rest := []) (μ := m_L_law) (pc := 398) dL_law_398 cv_L_136 rfl km (by decide) rfl (Nat.le_of_ble_eq_true rfl) (d' := d - 1) (by omega) (by omega) (by omega) (c_X12_put (N := N) wt hl (d := d - 1) (by omega) km (b, δ2) h2 _ _ ?_)
  show AW _ _ _ _ _ _ _ _ _ (398 + 3) _ [.int b] (g, δ2)
  refine a_istore ((6, .int b) :: (5, .int kk) :: lv0 D x m o i) (μ := m_L_law) (pc := 401) dL_law_401 (by decide) rfl ?_
  refine a_goto 1666 (μ := m_L_law) (pc := 403) dL_law_403 (by decide) ?_
  exact a_lv [2, 3, 4, 5, 6] rfl K
set_option maxHeartbeats 4000000 in
theorem lw_6 {l : Launch} {D : va_G} {cy : Nat → ClassId} {N d rc rs : Nat} {P : Option Value → hp → Prop} {X : String → hp → Prop} {g : gp} (wt : WT g) (hl : l.stackTraces = false) (hd : 91 ≤ d) {x m o : Nat} {i : Int32} {δ : dp} (kx : q_K g x = 11) (km : q_K g m = 12) (ko : q_K g o = 14) (ho : q_N g o = 1) (hin : ∀ v : Int32, v ∈ [1, 2, 3, 4, 5] → vp_in (i + v) (D.2 102 1)) {kk b : Int32} {δ1 δ2 : dp} (h1 : D_L_drop N g x (sc D (i + 1)) (sc D (i + 2)) o δ = some (kk, δ1)) (h2 : D_X12_drop N g m (sc D (i + 1)) (sc D (i + 2)) δ1 = some (b, δ2)) (K : AW l D cy m_L_law d rc rs P X 1666 (lv0 D x m o i) [] (g, δ2)) : AW l D cy m_L_law d (rc + 3) (rs + 18) P X 406 (lv0 D x m o i) [] (g, δ) := by
  refine a_wk (rc' := rc + 3) (rs' := rs + 18) (by omega) (by omega) ?_
  refine a_aload_n 3 1 (μ := m_L_law) (pc := 406) dL_law_406 rfl rfl ?_
  refine l_arg (v := 1) 4 0 407 dL_law_407 dL_law_408 dL_law_410 dL_law_411 dL_law_412 rfl rfl (by decide) (hin 1 (by decide)) ?_
  refine l_arg (v := 2) 4 0 413 dL_law_413 dL_law_414 dL_law_416 dL_law_417 dL_law_418 rfl rfl (by decide) (hin 2 (by decide)) ?_
  refine a_aload_n 1 3 (μ := m_L_law) (pc := 419) dL_law_419 rfl rfl ?_
  refine a_callH (hh := hh_drop) (h := (g, δ)) (rc' := rc) (rs' := rs) (mc' := 2) (ms' := 12) (As := [.ref x, .int (sc D (i + 1)), .int (sc D (i + 2)), .ref o]) (rest := []) (μ := m_L_law) (pc := 420) dL_law_420 ch_137 rfl (Nat.le_of_ble_eq_true rfl) (d' := d - 1) (by omega) (by omega) (by omega) (c_L_drop (N := N) wt hl (d := d - 1) (by omega) kx ko (kk, δ1) h1 ?_)
  show AW _ _ _ _ _ _ _ _ _ (420 + 3) _ [.int kk] (g, δ1)
  refine a_istore ((5, .int kk) :: lv0 D x m o i) (μ := m_L_law) (pc := 423) dL_law_423 (by decide) rfl ?_
  refine a_aload_n 3 2 (μ := m_L_law) (pc := 425) dL_law_425 rfl rfl ?_
  refine l_arg (v := 1) 5 1 426 dL_law_426 dL_law_427 dL_law_429 dL_law_430 dL_law_431 rfl rfl (by decide) (hin 1 (by decide)) ?_
  refine l_arg (v := 2) 5 1 432 dL_law_432 dL_law_433 dL_law_435 dL_law_436 dL_law_437 rfl rfl (by decide) (hin 2 (by decide)) ?_
  refine a_callV (h := (g, δ1)) (rc' := rc) (rs' := rs) (As := [.int (sc D (i + 1)), .int (sc D (i + 2))]) (rest := []) (μ := m_L_law) (pc := 438) dL_law_438 cv_L_139 rfl km (by decide) rfl (Nat.le_of_ble_eq_true rfl) (d' := d - 1) (by omega) (by omega) (by omega) (c_X12_drop (N := N) wt hl (d := d - 1) (by omega) km (b, δ2) h2 _ _ ?_)
  show AW _ _ _ _ _ _ _ _ _ (438 + 3) _ [.int b] (g, δ2)
  refine a_istore ((6, .int b) :: (5, .int kk) :: lv0 D x m o i) (μ := m_L_law) (pc := 441) dL_law_441 (by decide) rfl ?_
  refine a_goto 1666 (μ := m_L_law) (pc := 443) dL_law_443 (by decide) ?_
  exact a_lv [2, 3, 4, 5, 6] rfl K
set_option maxHeartbeats 4000000 in
theorem lw_7 {l : Launch} {D : va_G} {cy : Nat → ClassId} {N d rc rs : Nat} {P : Option Value → hp → Prop} {X : String → hp → Prop} {g : gp} (wt : WT g) (hl : l.stackTraces = false) (hd : 91 ≤ d) {x m o : Nat} {i : Int32} {δ : dp} (kx : q_K g x = 11) (km : q_K g m = 12) (ko : q_K g o = 14) (ho : q_N g o = 1) (hin : ∀ v : Int32, v ∈ [1, 2, 3, 4, 5] → vp_in (i + v) (D.2 102 1)) {kk b : Int32} {δ1 δ2 : dp} (h1 : D_L_has N g x (sc D (i + 1)) (sc D (i + 2)) o δ = some (kk, δ1)) (h2 : D_X12_has N g m (sc D (i + 1)) (sc D (i + 2)) δ1 = some (b, δ2)) (K : AW l D cy m_L_law d rc rs P X 1666 (lv0 D x m o i) [] (g, δ2)) : AW l D cy m_L_law d (rc + 3) (rs + 18) P X 446 (lv0 D x m o i) [] (g, δ) := by
  refine a_wk (rc' := rc + 3) (rs' := rs + 18) (by omega) (by omega) ?_
  refine a_aload_n 3 1 (μ := m_L_law) (pc := 446) dL_law_446 rfl rfl ?_
  refine l_arg (v := 1) 4 0 447 dL_law_447 dL_law_448 dL_law_450 dL_law_451 dL_law_452 rfl rfl (by decide) (hin 1 (by decide)) ?_
  refine l_arg (v := 2) 4 0 453 dL_law_453 dL_law_454 dL_law_456 dL_law_457 dL_law_458 rfl rfl (by decide) (hin 2 (by decide)) ?_
  refine a_aload_n 1 3 (μ := m_L_law) (pc := 459) dL_law_459 rfl rfl ?_
  refine a_callH (hh := hh_has) (h := (g, δ)) (rc' := rc) (rs' := rs) (mc' := 2) (ms' := 12) (As := [.ref x, .int (sc D (i + 1)), .int (sc D (i + 2)), .ref o]) (rest := []) (μ := m_L_law) (pc := 460) dL_law_460 ch_140 rfl (Nat.le_of_ble_eq_true rfl) (d' := d - 1) (by omega) (by omega) (by omega) (c_L_has (N := N) wt hl (d := d - 1) (by omega) kx ko (kk, δ1) h1 ?_)
  show AW _ _ _ _ _ _ _ _ _ (460 + 3) _ [.int kk] (g, δ1)
  refine a_istore ((5, .int kk) :: lv0 D x m o i) (μ := m_L_law) (pc := 463) dL_law_463 (by decide) rfl ?_
  refine a_aload_n 3 2 (μ := m_L_law) (pc := 465) dL_law_465 rfl rfl ?_
  refine l_arg (v := 1) 5 1 466 dL_law_466 dL_law_467 dL_law_469 dL_law_470 dL_law_471 rfl rfl (by decide) (hin 1 (by decide)) ?_
  refine l_arg (v := 2) 5 1 472 dL_law_472 dL_law_473 dL_law_475 dL_law_476 dL_law_477 rfl rfl (by decide) (hin 2 (by decide)) ?_
  refine a_callV (h := (g, δ1)) (rc' := rc) (rs' := rs) (As := [.int (sc D (i + 1)), .int (sc D (i + 2))]) (rest := []) (μ := m_L_law) (pc := 478) dL_law_478 cv_L_142 rfl km (by decide) rfl (Nat.le_of_ble_eq_true rfl) (d' := d - 1) (by omega) (by omega) (by omega) (c_X12_has (N := N) wt hl (d := d - 1) (by omega) km (b, δ2) h2 _ _ ?_)
  show AW _ _ _ _ _ _ _ _ _ (478 + 3) _ [.int b] (g, δ2)
  refine a_istore ((6, .int b) :: (5, .int kk) :: lv0 D x m o i) (μ := m_L_law) (pc := 481) dL_law_481 (by decide) rfl ?_
  refine a_goto 1666 (μ := m_L_law) (pc := 483) dL_law_483 (by decide) ?_
  exact a_lv [2, 3, 4, 5, 6] rfl K
set_option maxHeartbeats 4000000 in
theorem lw_8 {l : Launch} {D : va_G} {cy : Nat → ClassId} {N d rc rs : Nat} {P : Option Value → hp → Prop} {X : String → hp → Prop} {g : gp} (wt : WT g) (hl : l.stackTraces = false) (hd : 91 ≤ d) {x m o : Nat} {i : Int32} {δ : dp} (kx : q_K g x = 11) (km : q_K g m = 12) (ko : q_K g o = 14) (ho : q_N g o = 1) (hin : ∀ v : Int32, v ∈ [1, 2, 3, 4, 5] → vp_in (i + v) (D.2 102 1)) {kk b : Int32} {δ1 δ2 : dp} (h1 : D_L_of N g x (sc D (i + 1)) (sc D (i + 2)) o δ = some (kk, δ1)) (h2 : D_X12_of_ N g m (sc D (i + 1)) (sc D (i + 2)) δ1 = some (b, δ2)) (K : AW l D cy m_L_law d rc rs P X 1666 (lv0 D x m o i) [] (g, δ2)) : AW l D cy m_L_law d (rc + 3) (rs + 18) P X 486 (lv0 D x m o i) [] (g, δ) := by
  refine a_wk (rc' := rc + 3) (rs' := rs + 18) (by omega) (by omega) ?_
  refine a_aload_n 3 1 (μ := m_L_law) (pc := 486) dL_law_486 rfl rfl ?_
  refine l_arg (v := 1) 4 0 487 dL_law_487 dL_law_488 dL_law_490 dL_law_491 dL_law_492 rfl rfl (by decide) (hin 1 (by decide)) ?_
  refine l_arg (v := 2) 4 0 493 dL_law_493 dL_law_494 dL_law_496 dL_law_497 dL_law_498 rfl rfl (by decide) (hin 2 (by decide)) ?_
  refine a_aload_n 1 3 (μ := m_L_law) (pc := 499) dL_law_499 rfl rfl ?_
  refine a_callH (hh := hh_of) (h := (g, δ)) (rc' := rc) (rs' := rs) (mc' := 2) (ms' := 12) (As := [.ref x, .int (sc D (i + 1)), .int (sc D (i + 2)), .ref o]) (rest := []) (μ := m_L_law) (pc := 500) dL_law_500 ch_143 rfl (Nat.le_of_ble_eq_true rfl) (d' := d - 1) (by omega) (by omega) (by omega) (c_L_of (N := N) wt hl (d := d - 1) (by omega) kx ko (kk, δ1) h1 ?_)
  show AW _ _ _ _ _ _ _ _ _ (500 + 3) _ [.int kk] (g, δ1)
  refine a_istore ((5, .int kk) :: lv0 D x m o i) (μ := m_L_law) (pc := 503) dL_law_503 (by decide) rfl ?_
  refine a_aload_n 3 2 (μ := m_L_law) (pc := 505) dL_law_505 rfl rfl ?_
  refine l_arg (v := 1) 5 1 506 dL_law_506 dL_law_507 dL_law_509 dL_law_510 dL_law_511 rfl rfl (by decide) (hin 1 (by decide)) ?_
  refine l_arg (v := 2) 5 1 512 dL_law_512 dL_law_513 dL_law_515 dL_law_516 dL_law_517 rfl rfl (by decide) (hin 2 (by decide)) ?_
  refine a_callV (h := (g, δ1)) (rc' := rc) (rs' := rs) (As := [.int (sc D (i + 1)), .int (sc D (i + 2))]) (rest := []) (μ := m_L_law) (pc := 518) dL_law_518 cv_L_145 rfl km (by decide) rfl (Nat.le_of_ble_eq_true rfl) (d' := d - 1) (by omega) (by omega) (by omega) (c_X12_of_ (N := N) wt hl (d := d - 1) (by omega) km (b, δ2) h2 _ _ ?_)
  show AW _ _ _ _ _ _ _ _ _ (518 + 3) _ [.int b] (g, δ2)
  refine a_istore ((6, .int b) :: (5, .int kk) :: lv0 D x m o i) (μ := m_L_law) (pc := 521) dL_law_521 (by decide) rfl ?_
  refine a_goto 1666 (μ := m_L_law) (pc := 523) dL_law_523 (by decide) ?_
  exact a_lv [2, 3, 4, 5, 6] rfl K
set_option maxHeartbeats 4000000 in
theorem lw_9 {l : Launch} {D : va_G} {cy : Nat → ClassId} {N d rc rs : Nat} {P : Option Value → hp → Prop} {X : String → hp → Prop} {g : gp} (wt : WT g) (hl : l.stackTraces = false) (hd : 91 ≤ d) {x m o : Nat} {i : Int32} {δ : dp} (kx : q_K g x = 11) (km : q_K g m = 12) (ko : q_K g o = 14) (ho : q_N g o = 1) (hin : ∀ v : Int32, v ∈ [1, 2, 3, 4, 5] → vp_in (i + v) (D.2 102 1)) {kk b : Int32} {δ1 δ2 : dp} (h1 : D_L_next N g x (sc D (i + 1)) (sc D (i + 2)) o δ = some (kk, δ1)) (h2 : D_X12_next N g m (sc D (i + 1)) (sc D (i + 2)) δ1 = some (b, δ2)) (K : AW l D cy m_L_law d rc rs P X 1666 (lv0 D x m o i) [] (g, δ2)) : AW l D cy m_L_law d (rc + 3) (rs + 18) P X 526 (lv0 D x m o i) [] (g, δ) := by
  refine a_wk (rc' := rc + 3) (rs' := rs + 18) (by omega) (by omega) ?_
  refine a_aload_n 3 1 (μ := m_L_law) (pc := 526) dL_law_526 rfl rfl ?_
  refine l_arg (v := 1) 4 0 527 dL_law_527 dL_law_528 dL_law_530 dL_law_531 dL_law_532 rfl rfl (by decide) (hin 1 (by decide)) ?_
  refine l_arg (v := 2) 4 0 533 dL_law_533 dL_law_534 dL_law_536 dL_law_537 dL_law_538 rfl rfl (by decide) (hin 2 (by decide)) ?_
  refine a_aload_n 1 3 (μ := m_L_law) (pc := 539) dL_law_539 rfl rfl ?_
  refine a_callH (hh := hh_next) (h := (g, δ)) (rc' := rc) (rs' := rs) (mc' := 2) (ms' := 12) (As := [.ref x, .int (sc D (i + 1)), .int (sc D (i + 2)), .ref o]) (rest := []) (μ := m_L_law) (pc := 540) dL_law_540 ch_146 rfl (Nat.le_of_ble_eq_true rfl) (d' := d - 1) (by omega) (by omega) (by omega) (c_L_next (N := N) wt hl (d := d - 1) (by omega) kx ko (kk, δ1) h1 ?_)
  show AW _ _ _ _ _ _ _ _ _ (540 + 3) _ [.int kk] (g, δ1)
  refine a_istore ((5, .int kk) :: lv0 D x m o i) (μ := m_L_law) (pc := 543) dL_law_543 (by decide) rfl ?_
  refine a_aload_n 3 2 (μ := m_L_law) (pc := 545) dL_law_545 rfl rfl ?_
  refine l_arg (v := 1) 5 1 546 dL_law_546 dL_law_547 dL_law_549 dL_law_550 dL_law_551 rfl rfl (by decide) (hin 1 (by decide)) ?_
  refine l_arg (v := 2) 5 1 552 dL_law_552 dL_law_553 dL_law_555 dL_law_556 dL_law_557 rfl rfl (by decide) (hin 2 (by decide)) ?_
  refine a_callV (h := (g, δ1)) (rc' := rc) (rs' := rs) (As := [.int (sc D (i + 1)), .int (sc D (i + 2))]) (rest := []) (μ := m_L_law) (pc := 558) dL_law_558 cv_L_148 rfl km (by decide) rfl (Nat.le_of_ble_eq_true rfl) (d' := d - 1) (by omega) (by omega) (by omega) (c_X12_next (N := N) wt hl (d := d - 1) (by omega) km (b, δ2) h2 _ _ ?_)
  show AW _ _ _ _ _ _ _ _ _ (558 + 3) _ [.int b] (g, δ2)
  refine a_istore ((6, .int b) :: (5, .int kk) :: lv0 D x m o i) (μ := m_L_law) (pc := 561) dL_law_561 (by decide) rfl ?_
  refine a_goto 1666 (μ := m_L_law) (pc := 563) dL_law_563 (by decide) ?_
  exact a_lv [2, 3, 4, 5, 6] rfl K
set_option maxHeartbeats 4000000 in
theorem lw_10 {l : Launch} {D : va_G} {cy : Nat → ClassId} {N d rc rs : Nat} {P : Option Value → hp → Prop} {X : String → hp → Prop} {g : gp} (wt : WT g) (hl : l.stackTraces = false) (hd : 91 ≤ d) {x m o : Nat} {i : Int32} {δ : dp} (kx : q_K g x = 11) (km : q_K g m = 12) (ko : q_K g o = 14) (ho : q_N g o = 1) (hin : ∀ v : Int32, v ∈ [1, 2, 3, 4, 5] → vp_in (i + v) (D.2 102 1)) {kk b : Int32} {δ1 δ2 : dp} (h1 : D_L_before N g x (sc D (i + 1)) (sc D (i + 2)) o δ = some (kk, δ1)) (h2 : D_X12_before N g m (sc D (i + 1)) (sc D (i + 2)) δ1 = some (b, δ2)) (K : AW l D cy m_L_law d rc rs P X 1666 (lv0 D x m o i) [] (g, δ2)) : AW l D cy m_L_law d (rc + 3) (rs + 18) P X 566 (lv0 D x m o i) [] (g, δ) := by
  refine a_wk (rc' := rc + 3) (rs' := rs + 18) (by omega) (by omega) ?_
  refine a_aload_n 3 1 (μ := m_L_law) (pc := 566) dL_law_566 rfl rfl ?_
  refine l_arg (v := 1) 4 0 567 dL_law_567 dL_law_568 dL_law_570 dL_law_571 dL_law_572 rfl rfl (by decide) (hin 1 (by decide)) ?_
  refine l_arg (v := 2) 4 0 573 dL_law_573 dL_law_574 dL_law_576 dL_law_577 dL_law_578 rfl rfl (by decide) (hin 2 (by decide)) ?_
  refine a_aload_n 1 3 (μ := m_L_law) (pc := 579) dL_law_579 rfl rfl ?_
  refine a_callH (hh := hh_before) (h := (g, δ)) (rc' := rc) (rs' := rs) (mc' := 2) (ms' := 12) (As := [.ref x, .int (sc D (i + 1)), .int (sc D (i + 2)), .ref o]) (rest := []) (μ := m_L_law) (pc := 580) dL_law_580 ch_149 rfl (Nat.le_of_ble_eq_true rfl) (d' := d - 1) (by omega) (by omega) (by omega) (c_L_before (N := N) wt hl (d := d - 1) (by omega) kx ko (kk, δ1) h1 ?_)
  show AW _ _ _ _ _ _ _ _ _ (580 + 3) _ [.int kk] (g, δ1)
  refine a_istore ((5, .int kk) :: lv0 D x m o i) (μ := m_L_law) (pc := 583) dL_law_583 (by decide) rfl ?_
  refine a_aload_n 3 2 (μ := m_L_law) (pc := 585) dL_law_585 rfl rfl ?_
  refine l_arg (v := 1) 5 1 586 dL_law_586 dL_law_587 dL_law_589 dL_law_590 dL_law_591 rfl rfl (by decide) (hin 1 (by decide)) ?_
  refine l_arg (v := 2) 5 1 592 dL_law_592 dL_law_593 dL_law_595 dL_law_596 dL_law_597 rfl rfl (by decide) (hin 2 (by decide)) ?_
  refine a_callV (h := (g, δ1)) (rc' := rc) (rs' := rs) (As := [.int (sc D (i + 1)), .int (sc D (i + 2))]) (rest := []) (μ := m_L_law) (pc := 598) dL_law_598 cv_L_151 rfl km (by decide) rfl (Nat.le_of_ble_eq_true rfl) (d' := d - 1) (by omega) (by omega) (by omega) (c_X12_before (N := N) wt hl (d := d - 1) (by omega) km (b, δ2) h2 _ _ ?_)
  show AW _ _ _ _ _ _ _ _ _ (598 + 3) _ [.int b] (g, δ2)
  refine a_istore ((6, .int b) :: (5, .int kk) :: lv0 D x m o i) (μ := m_L_law) (pc := 601) dL_law_601 (by decide) rfl ?_
  refine a_goto 1666 (μ := m_L_law) (pc := 603) dL_law_603 (by decide) ?_
  exact a_lv [2, 3, 4, 5, 6] rfl K
set_option maxHeartbeats 4000000 in
theorem lw_11 {l : Launch} {D : va_G} {cy : Nat → ClassId} {N d rc rs : Nat} {P : Option Value → hp → Prop} {X : String → hp → Prop} {g : gp} (wt : WT g) (hl : l.stackTraces = false) (hd : 91 ≤ d) {x m o : Nat} {i : Int32} {δ : dp} (kx : q_K g x = 11) (km : q_K g m = 12) (ko : q_K g o = 14) (ho : q_N g o = 1) (hin : ∀ v : Int32, v ∈ [1, 2, 3, 4, 5] → vp_in (i + v) (D.2 102 1)) {kk b : Int32} {δ1 δ2 : dp} (h1 : D_L_kth N g x (sc D (i + 1)) (sc D (i + 2)) o δ = some (kk, δ1)) (h2 : D_X12_kth N g m (sc D (i + 1)) (sc D (i + 2)) δ1 = some (b, δ2)) (K : AW l D cy m_L_law d rc rs P X 1666 (lv0 D x m o i) [] (g, δ2)) : AW l D cy m_L_law d (rc + 3) (rs + 18) P X 606 (lv0 D x m o i) [] (g, δ) := by
  refine a_wk (rc' := rc + 3) (rs' := rs + 18) (by omega) (by omega) ?_
  refine a_aload_n 3 1 (μ := m_L_law) (pc := 606) dL_law_606 rfl rfl ?_
  refine l_arg (v := 1) 4 0 607 dL_law_607 dL_law_608 dL_law_610 dL_law_611 dL_law_612 rfl rfl (by decide) (hin 1 (by decide)) ?_
  refine l_arg (v := 2) 4 0 613 dL_law_613 dL_law_614 dL_law_616 dL_law_617 dL_law_618 rfl rfl (by decide) (hin 2 (by decide)) ?_
  refine a_aload_n 1 3 (μ := m_L_law) (pc := 619) dL_law_619 rfl rfl ?_
  refine a_callH (hh := hh_kth) (h := (g, δ)) (rc' := rc) (rs' := rs) (mc' := 1) (ms' := 6) (As := [.ref x, .int (sc D (i + 1)), .int (sc D (i + 2)), .ref o]) (rest := []) (μ := m_L_law) (pc := 620) dL_law_620 ch_152 rfl (Nat.le_of_ble_eq_true rfl) (d' := d - 1) (by omega) (by omega) (by omega) (c_L_kth (N := N) wt hl (d := d - 1) (by omega) kx ko (kk, δ1) h1 ?_)
  show AW _ _ _ _ _ _ _ _ _ (620 + 3) _ [.int kk] (g, δ1)
  refine a_istore ((5, .int kk) :: lv0 D x m o i) (μ := m_L_law) (pc := 623) dL_law_623 (by decide) rfl ?_
  refine a_aload_n 3 2 (μ := m_L_law) (pc := 625) dL_law_625 rfl rfl ?_
  refine l_arg (v := 1) 5 1 626 dL_law_626 dL_law_627 dL_law_629 dL_law_630 dL_law_631 rfl rfl (by decide) (hin 1 (by decide)) ?_
  refine l_arg (v := 2) 5 1 632 dL_law_632 dL_law_633 dL_law_635 dL_law_636 dL_law_637 rfl rfl (by decide) (hin 2 (by decide)) ?_
  refine a_callV (h := (g, δ1)) (rc' := rc) (rs' := rs) (As := [.int (sc D (i + 1)), .int (sc D (i + 2))]) (rest := []) (μ := m_L_law) (pc := 638) dL_law_638 cv_L_154 rfl km (by decide) rfl (Nat.le_of_ble_eq_true rfl) (d' := d - 1) (by omega) (by omega) (by omega) (c_X12_kth (N := N) wt hl (d := d - 1) (by omega) km (b, δ2) h2 _ _ ?_)
  show AW _ _ _ _ _ _ _ _ _ (638 + 3) _ [.int b] (g, δ2)
  refine a_istore ((6, .int b) :: (5, .int kk) :: lv0 D x m o i) (μ := m_L_law) (pc := 641) dL_law_641 (by decide) rfl ?_
  refine a_goto 1666 (μ := m_L_law) (pc := 643) dL_law_643 (by decide) ?_
  exact a_lv [2, 3, 4, 5, 6] rfl K
set_option maxHeartbeats 4000000 in
theorem lw_12 {l : Launch} {D : va_G} {cy : Nat → ClassId} {N d rc rs : Nat} {P : Option Value → hp → Prop} {X : String → hp → Prop} {g : gp} (wt : WT g) (hl : l.stackTraces = false) (hd : 91 ≤ d) {x m o : Nat} {i : Int32} {δ : dp} (kx : q_K g x = 11) (km : q_K g m = 12) (ko : q_K g o = 14) (ho : q_N g o = 1) (hin : ∀ v : Int32, v ∈ [1, 2, 3, 4, 5] → vp_in (i + v) (D.2 102 1)) {kk b : Int32} {δ1 δ2 : dp} (h1 : D_L_between N g x (sc D (i + 1)) (sc D (i + 2)) (sc D (i + 3)) o δ = some (kk, δ1)) (h2 : D_X12_between N g m (sc D (i + 1)) (sc D (i + 2)) (sc D (i + 3)) δ1 = some (b, δ2)) (K : AW l D cy m_L_law d rc rs P X 1666 (lv0 D x m o i) [] (g, δ2)) : AW l D cy m_L_law d (rc + 3) (rs + 18) P X 646 (lv0 D x m o i) [] (g, δ) := by
  refine a_wk (rc' := rc + 3) (rs' := rs + 18) (by omega) (by omega) ?_
  refine a_aload_n 3 1 (μ := m_L_law) (pc := 646) dL_law_646 rfl rfl ?_
  refine l_arg (v := 1) 4 0 647 dL_law_647 dL_law_648 dL_law_650 dL_law_651 dL_law_652 rfl rfl (by decide) (hin 1 (by decide)) ?_
  refine l_arg (v := 2) 4 0 653 dL_law_653 dL_law_654 dL_law_656 dL_law_657 dL_law_658 rfl rfl (by decide) (hin 2 (by decide)) ?_
  refine l_arg (v := 3) 4 0 659 dL_law_659 dL_law_660 dL_law_662 dL_law_663 dL_law_664 rfl rfl (by decide) (hin 3 (by decide)) ?_
  refine a_aload_n 1 3 (μ := m_L_law) (pc := 665) dL_law_665 rfl rfl ?_
  refine a_callH (hh := hh_between) (h := (g, δ)) (rc' := rc) (rs' := rs) (mc' := 2) (ms' := 12) (As := [.ref x, .int (sc D (i + 1)), .int (sc D (i + 2)), .int (sc D (i + 3)), .ref o]) (rest := []) (μ := m_L_law) (pc := 666) dL_law_666 ch_155 rfl (Nat.le_of_ble_eq_true rfl) (d' := d - 1) (by omega) (by omega) (by omega) (c_L_between (N := N) wt hl (d := d - 1) (by omega) kx ko (kk, δ1) h1 ?_)
  show AW _ _ _ _ _ _ _ _ _ (666 + 3) _ [.int kk] (g, δ1)
  refine a_istore ((5, .int kk) :: lv0 D x m o i) (μ := m_L_law) (pc := 669) dL_law_669 (by decide) rfl ?_
  refine a_aload_n 3 2 (μ := m_L_law) (pc := 671) dL_law_671 rfl rfl ?_
  refine l_arg (v := 1) 5 1 672 dL_law_672 dL_law_673 dL_law_675 dL_law_676 dL_law_677 rfl rfl (by decide) (hin 1 (by decide)) ?_
  refine l_arg (v := 2) 5 1 678 dL_law_678 dL_law_679 dL_law_681 dL_law_682 dL_law_683 rfl rfl (by decide) (hin 2 (by decide)) ?_
  refine l_arg (v := 3) 5 1 684 dL_law_684 dL_law_685 dL_law_687 dL_law_688 dL_law_689 rfl rfl (by decide) (hin 3 (by decide)) ?_
  refine a_callV (h := (g, δ1)) (rc' := rc) (rs' := rs) (As := [.int (sc D (i + 1)), .int (sc D (i + 2)), .int (sc D (i + 3))]) (rest := []) (μ := m_L_law) (pc := 690) dL_law_690 cv_L_158 rfl km (by decide) rfl (Nat.le_of_ble_eq_true rfl) (d' := d - 1) (by omega) (by omega) (by omega) (c_X12_between (N := N) wt hl (d := d - 1) (by omega) km (b, δ2) h2 _ _ ?_)
  show AW _ _ _ _ _ _ _ _ _ (690 + 3) _ [.int b] (g, δ2)
  refine a_istore ((6, .int b) :: (5, .int kk) :: lv0 D x m o i) (μ := m_L_law) (pc := 693) dL_law_693 (by decide) rfl ?_
  refine a_goto 1666 (μ := m_L_law) (pc := 695) dL_law_695 (by decide) ?_
  exact a_lv [2, 3, 4, 5, 6] rfl K
set_option maxHeartbeats 4000000 in
theorem lw_13 {l : Launch} {D : va_G} {cy : Nat → ClassId} {N d rc rs : Nat} {P : Option Value → hp → Prop} {X : String → hp → Prop} {g : gp} (wt : WT g) (hl : l.stackTraces = false) (hd : 91 ≤ d) {x m o : Nat} {i : Int32} {δ : dp} (kx : q_K g x = 11) (km : q_K g m = 12) (ko : q_K g o = 14) (ho : q_N g o = 1) (hin : ∀ v : Int32, v ∈ [1, 2, 3, 4, 5] → vp_in (i + v) (D.2 102 1)) {kk b : Int32} {δ1 δ2 : dp} (h1 : D_L_touches N g x (sc D (i + 1)) (sc D (i + 2)) (sc D (i + 3)) (sc D (i + 4)) o δ = some (kk, δ1)) (h2 : D_X12_touches N g m (sc D (i + 1)) (sc D (i + 2)) (sc D (i + 3)) (sc D (i + 4)) δ1 = some (b, δ2)) (K : AW l D cy m_L_law d rc rs P X 1666 (lv0 D x m o i) [] (g, δ2)) : AW l D cy m_L_law d (rc + 3) (rs + 18) P X 698 (lv0 D x m o i) [] (g, δ) := by
  refine a_wk (rc' := rc + 3) (rs' := rs + 18) (by omega) (by omega) ?_
  refine a_aload_n 3 1 (μ := m_L_law) (pc := 698) dL_law_698 rfl rfl ?_
  refine l_arg (v := 1) 4 0 699 dL_law_699 dL_law_700 dL_law_702 dL_law_703 dL_law_704 rfl rfl (by decide) (hin 1 (by decide)) ?_
  refine l_arg (v := 2) 4 0 705 dL_law_705 dL_law_706 dL_law_708 dL_law_709 dL_law_710 rfl rfl (by decide) (hin 2 (by decide)) ?_
  refine l_arg (v := 3) 4 0 711 dL_law_711 dL_law_712 dL_law_714 dL_law_715 dL_law_716 rfl rfl (by decide) (hin 3 (by decide)) ?_
  refine l_arg (v := 4) 4 0 717 dL_law_717 dL_law_718 dL_law_720 dL_law_721 dL_law_722 rfl rfl (by decide) (hin 4 (by decide)) ?_
  refine a_aload_n 1 3 (μ := m_L_law) (pc := 723) dL_law_723 rfl rfl ?_
  refine a_callH (hh := hh_touches) (h := (g, δ)) (rc' := rc) (rs' := rs) (mc' := 2) (ms' := 12) (As := [.ref x, .int (sc D (i + 1)), .int (sc D (i + 2)), .int (sc D (i + 3)), .int (sc D (i + 4)), .ref o]) (rest := []) (μ := m_L_law) (pc := 724) dL_law_724 ch_159 rfl (Nat.le_of_ble_eq_true rfl) (d' := d - 1) (by omega) (by omega) (by omega) (c_L_touches (N := N) wt hl (d := d - 1) (by omega) kx ko (kk, δ1) h1 ?_)
  show AW _ _ _ _ _ _ _ _ _ (724 + 3) _ [.int kk] (g, δ1)
  refine a_istore ((5, .int kk) :: lv0 D x m o i) (μ := m_L_law) (pc := 727) dL_law_727 (by decide) rfl ?_
  refine a_aload_n 3 2 (μ := m_L_law) (pc := 729) dL_law_729 rfl rfl ?_
  refine l_arg (v := 1) 5 1 730 dL_law_730 dL_law_731 dL_law_733 dL_law_734 dL_law_735 rfl rfl (by decide) (hin 1 (by decide)) ?_
  refine l_arg (v := 2) 5 1 736 dL_law_736 dL_law_737 dL_law_739 dL_law_740 dL_law_741 rfl rfl (by decide) (hin 2 (by decide)) ?_
  refine l_arg (v := 3) 5 1 742 dL_law_742 dL_law_743 dL_law_745 dL_law_746 dL_law_747 rfl rfl (by decide) (hin 3 (by decide)) ?_
  refine l_arg (v := 4) 5 1 748 dL_law_748 dL_law_749 dL_law_751 dL_law_752 dL_law_753 rfl rfl (by decide) (hin 4 (by decide)) ?_
  refine a_callV (h := (g, δ1)) (rc' := rc) (rs' := rs) (As := [.int (sc D (i + 1)), .int (sc D (i + 2)), .int (sc D (i + 3)), .int (sc D (i + 4))]) (rest := []) (μ := m_L_law) (pc := 754) dL_law_754 cv_L_162 rfl km (by decide) rfl (Nat.le_of_ble_eq_true rfl) (d' := d - 1) (by omega) (by omega) (by omega) (c_X12_touches (N := N) wt hl (d := d - 1) (by omega) km (b, δ2) h2 _ _ ?_)
  show AW _ _ _ _ _ _ _ _ _ (754 + 3) _ [.int b] (g, δ2)
  refine a_istore ((6, .int b) :: (5, .int kk) :: lv0 D x m o i) (μ := m_L_law) (pc := 757) dL_law_757 (by decide) rfl ?_
  refine a_goto 1666 (μ := m_L_law) (pc := 759) dL_law_759 (by decide) ?_
  exact a_lv [2, 3, 4, 5, 6] rfl K
set_option maxHeartbeats 4000000 in
theorem lw_14 {l : Launch} {D : va_G} {cy : Nat → ClassId} {N d rc rs : Nat} {P : Option Value → hp → Prop} {X : String → hp → Prop} {g : gp} (wt : WT g) (hl : l.stackTraces = false) (hd : 91 ≤ d) {x m o : Nat} {i : Int32} {δ : dp} (kx : q_K g x = 11) (km : q_K g m = 12) (ko : q_K g o = 14) (ho : q_N g o = 1) (hin : ∀ v : Int32, v ∈ [1, 2, 3, 4, 5] → vp_in (i + v) (D.2 102 1)) {kk b : Int32} {δ1 δ2 : dp} (h1 : D_L_size N g x (sc D (i + 1)) (sc D (i + 2)) o δ = some (kk, δ1)) (h2 : D_X12_size N g m (sc D (i + 1)) (sc D (i + 2)) δ1 = some (b, δ2)) (K : AW l D cy m_L_law d rc rs P X 1666 (lv0 D x m o i) [] (g, δ2)) : AW l D cy m_L_law d (rc + 3) (rs + 18) P X 762 (lv0 D x m o i) [] (g, δ) := by
  refine a_wk (rc' := rc + 3) (rs' := rs + 18) (by omega) (by omega) ?_
  refine a_aload_n 3 1 (μ := m_L_law) (pc := 762) dL_law_762 rfl rfl ?_
  refine l_arg (v := 1) 4 0 763 dL_law_763 dL_law_764 dL_law_766 dL_law_767 dL_law_768 rfl rfl (by decide) (hin 1 (by decide)) ?_
  refine l_arg (v := 2) 4 0 769 dL_law_769 dL_law_770 dL_law_772 dL_law_773 dL_law_774 rfl rfl (by decide) (hin 2 (by decide)) ?_
  refine a_aload_n 1 3 (μ := m_L_law) (pc := 775) dL_law_775 rfl rfl ?_
  refine a_callH (hh := hh_size) (h := (g, δ)) (rc' := rc) (rs' := rs) (mc' := 2) (ms' := 12) (As := [.ref x, .int (sc D (i + 1)), .int (sc D (i + 2)), .ref o]) (rest := []) (μ := m_L_law) (pc := 776) dL_law_776 ch_163 rfl (Nat.le_of_ble_eq_true rfl) (d' := d - 1) (by omega) (by omega) (by omega) (c_L_size (N := N) wt hl (d := d - 1) (by omega) kx ko (kk, δ1) h1 ?_)
  show AW _ _ _ _ _ _ _ _ _ (776 + 3) _ [.int kk] (g, δ1)
  refine a_istore ((5, .int kk) :: lv0 D x m o i) (μ := m_L_law) (pc := 779) dL_law_779 (by decide) rfl ?_
  refine a_aload_n 3 2 (μ := m_L_law) (pc := 781) dL_law_781 rfl rfl ?_
  refine l_arg (v := 1) 5 1 782 dL_law_782 dL_law_783 dL_law_785 dL_law_786 dL_law_787 rfl rfl (by decide) (hin 1 (by decide)) ?_
  refine l_arg (v := 2) 5 1 788 dL_law_788 dL_law_789 dL_law_791 dL_law_792 dL_law_793 rfl rfl (by decide) (hin 2 (by decide)) ?_
  refine a_callV (h := (g, δ1)) (rc' := rc) (rs' := rs) (As := [.int (sc D (i + 1)), .int (sc D (i + 2))]) (rest := []) (μ := m_L_law) (pc := 794) dL_law_794 cv_L_165 rfl km (by decide) rfl (Nat.le_of_ble_eq_true rfl) (d' := d - 1) (by omega) (by omega) (by omega) (c_X12_size (N := N) wt hl (d := d - 1) (by omega) km (b, δ2) h2 _ _ ?_)
  show AW _ _ _ _ _ _ _ _ _ (794 + 3) _ [.int b] (g, δ2)
  refine a_istore ((6, .int b) :: (5, .int kk) :: lv0 D x m o i) (μ := m_L_law) (pc := 797) dL_law_797 (by decide) rfl ?_
  refine a_goto 1666 (μ := m_L_law) (pc := 799) dL_law_799 (by decide) ?_
  exact a_lv [2, 3, 4, 5, 6] rfl K
set_option maxHeartbeats 4000000 in
theorem lw_15 {l : Launch} {D : va_G} {cy : Nat → ClassId} {N d rc rs : Nat} {P : Option Value → hp → Prop} {X : String → hp → Prop} {g : gp} (wt : WT g) (hl : l.stackTraces = false) (hd : 91 ≤ d) {x m o : Nat} {i : Int32} {δ : dp} (kx : q_K g x = 11) (km : q_K g m = 12) (ko : q_K g o = 14) (ho : q_N g o = 1) (hin : ∀ v : Int32, v ∈ [1, 2, 3, 4, 5] → vp_in (i + v) (D.2 102 1)) {kk b : Int32} {δ1 δ2 : dp} (h1 : D_L_bound N g x (sc D (i + 1)) o δ = some (kk, δ1)) (h2 : D_X12_bound N g m (sc D (i + 1)) δ1 = some (b, δ2)) (K : AW l D cy m_L_law d rc rs P X 1666 (lv0 D x m o i) [] (g, δ2)) : AW l D cy m_L_law d (rc + 3) (rs + 18) P X 802 (lv0 D x m o i) [] (g, δ) := by
  refine a_wk (rc' := rc + 3) (rs' := rs + 18) (by omega) (by omega) ?_
  refine a_aload_n 3 1 (μ := m_L_law) (pc := 802) dL_law_802 rfl rfl ?_
  refine l_arg (v := 1) 4 0 803 dL_law_803 dL_law_804 dL_law_806 dL_law_807 dL_law_808 rfl rfl (by decide) (hin 1 (by decide)) ?_
  refine a_aload_n 1 3 (μ := m_L_law) (pc := 809) dL_law_809 rfl rfl ?_
  refine a_callH (hh := hh_bound) (h := (g, δ)) (rc' := rc) (rs' := rs) (mc' := 1) (ms' := 6) (As := [.ref x, .int (sc D (i + 1)), .ref o]) (rest := []) (μ := m_L_law) (pc := 810) dL_law_810 ch_166 rfl (Nat.le_of_ble_eq_true rfl) (d' := d - 1) (by omega) (by omega) (by omega) (c_L_bound (N := N) wt hl (d := d - 1) (by omega) kx ko (kk, δ1) h1 ?_)
  show AW _ _ _ _ _ _ _ _ _ (810 + 3) _ [.int kk] (g, δ1)
  refine a_istore ((5, .int kk) :: lv0 D x m o i) (μ := m_L_law) (pc := 813) dL_law_813 (by decide) rfl ?_
  refine a_aload_n 3 2 (μ := m_L_law) (pc := 815) dL_law_815 rfl rfl ?_
  refine l_arg (v := 1) 5 1 816 dL_law_816 dL_law_817 dL_law_819 dL_law_820 dL_law_821 rfl rfl (by decide) (hin 1 (by decide)) ?_
  refine a_callV (h := (g, δ1)) (rc' := rc) (rs' := rs) (As := [.int (sc D (i + 1))]) (rest := []) (μ := m_L_law) (pc := 822) dL_law_822 cv_L_168 rfl km (by decide) rfl (Nat.le_of_ble_eq_true rfl) (d' := d - 1) (by omega) (by omega) (by omega) (c_X12_bound (N := N) wt hl (d := d - 1) (by omega) km (b, δ2) h2 _ _ ?_)
  show AW _ _ _ _ _ _ _ _ _ (822 + 3) _ [.int b] (g, δ2)
  refine a_istore ((6, .int b) :: (5, .int kk) :: lv0 D x m o i) (μ := m_L_law) (pc := 825) dL_law_825 (by decide) rfl ?_
  refine a_goto 1666 (μ := m_L_law) (pc := 827) dL_law_827 (by decide) ?_
  exact a_lv [2, 3, 4, 5, 6] rfl K
set_option maxHeartbeats 4000000 in
theorem lw_16 {l : Launch} {D : va_G} {cy : Nat → ClassId} {N d rc rs : Nat} {P : Option Value → hp → Prop} {X : String → hp → Prop} {g : gp} (wt : WT g) (hl : l.stackTraces = false) (hd : 91 ≤ d) {x m o : Nat} {i : Int32} {δ : dp} (kx : q_K g x = 11) (km : q_K g m = 12) (ko : q_K g o = 14) (ho : q_N g o = 1) (hin : ∀ v : Int32, v ∈ [1, 2, 3, 4, 5] → vp_in (i + v) (D.2 102 1)) {kk b : Int32} {δ1 δ2 : dp} (h1 : D_L_worst N g x (sc D (i + 1)) (sc D (i + 2)) (sc D (i + 3)) o δ = some (kk, δ1)) (h2 : D_X12_worst N g m (sc D (i + 1)) (sc D (i + 2)) (sc D (i + 3)) δ1 = some (b, δ2)) (K : AW l D cy m_L_law d rc rs P X 1666 (lv0 D x m o i) [] (g, δ2)) : AW l D cy m_L_law d (rc + 3) (rs + 18) P X 830 (lv0 D x m o i) [] (g, δ) := by
  refine a_wk (rc' := rc + 3) (rs' := rs + 18) (by omega) (by omega) ?_
  refine a_aload_n 3 1 (μ := m_L_law) (pc := 830) dL_law_830 rfl rfl ?_
  refine l_arg (v := 1) 4 0 831 dL_law_831 dL_law_832 dL_law_834 dL_law_835 dL_law_836 rfl rfl (by decide) (hin 1 (by decide)) ?_
  refine l_arg (v := 2) 4 0 837 dL_law_837 dL_law_838 dL_law_840 dL_law_841 dL_law_842 rfl rfl (by decide) (hin 2 (by decide)) ?_
  refine l_arg (v := 3) 4 0 843 dL_law_843 dL_law_844 dL_law_846 dL_law_847 dL_law_848 rfl rfl (by decide) (hin 3 (by decide)) ?_
  refine a_aload_n 1 3 (μ := m_L_law) (pc := 849) dL_law_849 rfl rfl ?_
  refine a_callH (hh := hh_worst) (h := (g, δ)) (rc' := rc) (rs' := rs) (mc' := 1) (ms' := 6) (As := [.ref x, .int (sc D (i + 1)), .int (sc D (i + 2)), .int (sc D (i + 3)), .ref o]) (rest := []) (μ := m_L_law) (pc := 850) dL_law_850 ch_169 rfl (Nat.le_of_ble_eq_true rfl) (d' := d - 1) (by omega) (by omega) (by omega) (c_L_worst (N := N) wt hl (d := d - 1) (by omega) kx ko (kk, δ1) h1 ?_)
  show AW _ _ _ _ _ _ _ _ _ (850 + 3) _ [.int kk] (g, δ1)
  refine a_istore ((5, .int kk) :: lv0 D x m o i) (μ := m_L_law) (pc := 853) dL_law_853 (by decide) rfl ?_
  refine a_aload_n 3 2 (μ := m_L_law) (pc := 855) dL_law_855 rfl rfl ?_
  refine l_arg (v := 1) 5 1 856 dL_law_856 dL_law_857 dL_law_859 dL_law_860 dL_law_861 rfl rfl (by decide) (hin 1 (by decide)) ?_
  refine l_arg (v := 2) 5 1 862 dL_law_862 dL_law_863 dL_law_865 dL_law_866 dL_law_867 rfl rfl (by decide) (hin 2 (by decide)) ?_
  refine l_arg (v := 3) 5 1 868 dL_law_868 dL_law_869 dL_law_871 dL_law_872 dL_law_873 rfl rfl (by decide) (hin 3 (by decide)) ?_
  refine a_callV (h := (g, δ1)) (rc' := rc) (rs' := rs) (As := [.int (sc D (i + 1)), .int (sc D (i + 2)), .int (sc D (i + 3))]) (rest := []) (μ := m_L_law) (pc := 874) dL_law_874 cv_L_171 rfl km (by decide) rfl (Nat.le_of_ble_eq_true rfl) (d' := d - 1) (by omega) (by omega) (by omega) (c_X12_worst (N := N) wt hl (d := d - 1) (by omega) km (b, δ2) h2 _ _ ?_)
  show AW _ _ _ _ _ _ _ _ _ (874 + 3) _ [.int b] (g, δ2)
  refine a_istore ((6, .int b) :: (5, .int kk) :: lv0 D x m o i) (μ := m_L_law) (pc := 877) dL_law_877 (by decide) rfl ?_
  refine a_goto 1666 (μ := m_L_law) (pc := 879) dL_law_879 (by decide) ?_
  exact a_lv [2, 3, 4, 5, 6] rfl K
set_option maxHeartbeats 4000000 in
theorem lw_17 {l : Launch} {D : va_G} {cy : Nat → ClassId} {N d rc rs : Nat} {P : Option Value → hp → Prop} {X : String → hp → Prop} {g : gp} (wt : WT g) (hl : l.stackTraces = false) (hd : 91 ≤ d) {x m o : Nat} {i : Int32} {δ : dp} (kx : q_K g x = 11) (km : q_K g m = 12) (ko : q_K g o = 14) (ho : q_N g o = 1) (hin : ∀ v : Int32, v ∈ [1, 2, 3, 4, 5] → vp_in (i + v) (D.2 102 1)) {kk b : Int32} {δ1 δ2 : dp} (h1 : D_L_bad N g x (sc D (i + 1)) (sc D (i + 2)) (sc D (i + 3)) o δ = some (kk, δ1)) (h2 : D_X12_bad N g m (sc D (i + 1)) (sc D (i + 2)) (sc D (i + 3)) δ1 = some (b, δ2)) (K : AW l D cy m_L_law d rc rs P X 1666 (lv0 D x m o i) [] (g, δ2)) : AW l D cy m_L_law d (rc + 3) (rs + 18) P X 882 (lv0 D x m o i) [] (g, δ) := by
  refine a_wk (rc' := rc + 3) (rs' := rs + 18) (by omega) (by omega) ?_
  refine a_aload_n 3 1 (μ := m_L_law) (pc := 882) dL_law_882 rfl rfl ?_
  refine l_arg (v := 1) 4 0 883 dL_law_883 dL_law_884 dL_law_886 dL_law_887 dL_law_888 rfl rfl (by decide) (hin 1 (by decide)) ?_
  refine l_arg (v := 2) 4 0 889 dL_law_889 dL_law_890 dL_law_892 dL_law_893 dL_law_894 rfl rfl (by decide) (hin 2 (by decide)) ?_
  refine l_arg (v := 3) 4 0 895 dL_law_895 dL_law_896 dL_law_898 dL_law_899 dL_law_900 rfl rfl (by decide) (hin 3 (by decide)) ?_
  refine a_aload_n 1 3 (μ := m_L_law) (pc := 901) dL_law_901 rfl rfl ?_
  refine a_callH (hh := hh_bad) (h := (g, δ)) (rc' := rc) (rs' := rs) (mc' := 1) (ms' := 6) (As := [.ref x, .int (sc D (i + 1)), .int (sc D (i + 2)), .int (sc D (i + 3)), .ref o]) (rest := []) (μ := m_L_law) (pc := 902) dL_law_902 ch_172 rfl (Nat.le_of_ble_eq_true rfl) (d' := d - 1) (by omega) (by omega) (by omega) (c_L_bad (N := N) wt hl (d := d - 1) (by omega) kx ko (kk, δ1) h1 ?_)
  show AW _ _ _ _ _ _ _ _ _ (902 + 3) _ [.int kk] (g, δ1)
  refine a_istore ((5, .int kk) :: lv0 D x m o i) (μ := m_L_law) (pc := 905) dL_law_905 (by decide) rfl ?_
  refine a_aload_n 3 2 (μ := m_L_law) (pc := 907) dL_law_907 rfl rfl ?_
  refine l_arg (v := 1) 5 1 908 dL_law_908 dL_law_909 dL_law_911 dL_law_912 dL_law_913 rfl rfl (by decide) (hin 1 (by decide)) ?_
  refine l_arg (v := 2) 5 1 914 dL_law_914 dL_law_915 dL_law_917 dL_law_918 dL_law_919 rfl rfl (by decide) (hin 2 (by decide)) ?_
  refine l_arg (v := 3) 5 1 920 dL_law_920 dL_law_921 dL_law_923 dL_law_924 dL_law_925 rfl rfl (by decide) (hin 3 (by decide)) ?_
  refine a_callV (h := (g, δ1)) (rc' := rc) (rs' := rs) (As := [.int (sc D (i + 1)), .int (sc D (i + 2)), .int (sc D (i + 3))]) (rest := []) (μ := m_L_law) (pc := 926) dL_law_926 cv_L_174 rfl km (by decide) rfl (Nat.le_of_ble_eq_true rfl) (d' := d - 1) (by omega) (by omega) (by omega) (c_X12_bad (N := N) wt hl (d := d - 1) (by omega) km (b, δ2) h2 _ _ ?_)
  show AW _ _ _ _ _ _ _ _ _ (926 + 3) _ [.int b] (g, δ2)
  refine a_istore ((6, .int b) :: (5, .int kk) :: lv0 D x m o i) (μ := m_L_law) (pc := 929) dL_law_929 (by decide) rfl ?_
  refine a_goto 1666 (μ := m_L_law) (pc := 931) dL_law_931 (by decide) ?_
  exact a_lv [2, 3, 4, 5, 6] rfl K
set_option maxHeartbeats 4000000 in
theorem lw_18 {l : Launch} {D : va_G} {cy : Nat → ClassId} {N d rc rs : Nat} {P : Option Value → hp → Prop} {X : String → hp → Prop} {g : gp} (wt : WT g) (hl : l.stackTraces = false) (hd : 91 ≤ d) {x m o : Nat} {i : Int32} {δ : dp} (kx : q_K g x = 11) (km : q_K g m = 12) (ko : q_K g o = 14) (ho : q_N g o = 1) (hin : ∀ v : Int32, v ∈ [1, 2, 3, 4, 5] → vp_in (i + v) (D.2 102 1)) {kk b : Int32} {δ1 δ2 : dp} (h1 : D_L_was N g x (sc D (i + 1)) (sc D (i + 2)) (sc D (i + 3)) o δ = some (kk, δ1)) (h2 : D_X12_was N g m (sc D (i + 1)) (sc D (i + 2)) (sc D (i + 3)) δ1 = some (b, δ2)) (h3 : q_I δ2 12 0 m = kk) (h4 : kk = 0 → q_J δ2 o 0 = b.toInt64) (K : AW l D cy m_L_law d rc rs P X 1666 (lv0 D x m o i) [] (g, δ2)) : AW l D cy m_L_law d (rc + 3) (rs + 18) P X 934 (lv0 D x m o i) [] (g, δ) := by
  refine a_wk (rc' := rc + 3) (rs' := rs + 18) (by omega) (by omega) ?_
  refine a_aload_n 3 1 (μ := m_L_law) (pc := 934) dL_law_934 rfl rfl ?_
  refine l_arg (v := 1) 4 0 935 dL_law_935 dL_law_936 dL_law_938 dL_law_939 dL_law_940 rfl rfl (by decide) (hin 1 (by decide)) ?_
  refine l_arg (v := 2) 4 0 941 dL_law_941 dL_law_942 dL_law_944 dL_law_945 dL_law_946 rfl rfl (by decide) (hin 2 (by decide)) ?_
  refine l_arg (v := 3) 4 0 947 dL_law_947 dL_law_948 dL_law_950 dL_law_951 dL_law_952 rfl rfl (by decide) (hin 3 (by decide)) ?_
  refine a_aload_n 1 3 (μ := m_L_law) (pc := 953) dL_law_953 rfl rfl ?_
  refine a_callH (hh := hh_was) (h := (g, δ)) (rc' := rc) (rs' := rs) (mc' := 2) (ms' := 12) (As := [.ref x, .int (sc D (i + 1)), .int (sc D (i + 2)), .int (sc D (i + 3)), .ref o]) (rest := []) (μ := m_L_law) (pc := 954) dL_law_954 ch_175 rfl (Nat.le_of_ble_eq_true rfl) (d' := d - 1) (by omega) (by omega) (by omega) (c_L_was (N := N) wt hl (d := d - 1) (by omega) kx ko (kk, δ1) h1 ?_)
  show AW _ _ _ _ _ _ _ _ _ (954 + 3) _ [.int kk] (g, δ1)
  refine a_istore ((5, .int kk) :: lv0 D x m o i) (μ := m_L_law) (pc := 957) dL_law_957 (by decide) rfl ?_
  refine a_aload_n 3 2 (μ := m_L_law) (pc := 959) dL_law_959 rfl rfl ?_
  refine l_arg (v := 1) 5 1 960 dL_law_960 dL_law_961 dL_law_963 dL_law_964 dL_law_965 rfl rfl (by decide) (hin 1 (by decide)) ?_
  refine l_arg (v := 2) 5 1 966 dL_law_966 dL_law_967 dL_law_969 dL_law_970 dL_law_971 rfl rfl (by decide) (hin 2 (by decide)) ?_
  refine l_arg (v := 3) 5 1 972 dL_law_972 dL_law_973 dL_law_975 dL_law_976 dL_law_977 rfl rfl (by decide) (hin 3 (by decide)) ?_
  refine a_callV (h := (g, δ1)) (rc' := rc) (rs' := rs) (As := [.int (sc D (i + 1)), .int (sc D (i + 2)), .int (sc D (i + 3))]) (rest := []) (μ := m_L_law) (pc := 978) dL_law_978 cv_L_177 rfl km (by decide) rfl (Nat.le_of_ble_eq_true rfl) (d' := d - 1) (by omega) (by omega) (by omega) (c_X12_was (N := N) wt hl (d := d - 1) (by omega) km (b, δ2) h2 _ _ ?_)
  show AW _ _ _ _ _ _ _ _ _ (978 + 3) _ [.int b] (g, δ2)
  refine a_istore ((6, .int b) :: (5, .int kk) :: lv0 D x m o i) (μ := m_L_law) (pc := 981) dL_law_981 (by decide) rfl ?_
  refine a_aload_n 4 2 (μ := m_L_law) (pc := 983) dL_law_983 rfl rfl ?_
  refine a_callV (h := (g, δ2)) (rc' := rc) (rs' := rs) (As := []) (rest := []) (μ := m_L_law) (pc := 984) dL_law_984 cv_L_178 rfl km (by decide) rfl (Nat.le_of_ble_eq_true rfl) (d' := d - 1) (by omega) (by omega) (by omega) (c_X12_thrown (N := N) wt hl (d := d - 1) (by omega) km (q_I δ2 12 0 m, δ2) rfl _ _ ?_)
  show AW _ _ _ _ _ _ _ _ _ (984 + 3) _ [.int (q_I δ2 12 0 m)] (g, δ2)
  refine a_iload 1 (μ := m_L_law) (pc := 987) dL_law_987 rfl ?_
  refine a_icmp_eq 994 (μ := m_L_law) (pc := 989) dL_law_989 (by decide) (fun _ => ?_) (fun z => absurd h3 z)
  refine a_iload 1 (μ := m_L_law) (pc := 994) dL_law_994 rfl ?_
  refine a_if_ne 1011 (μ := m_L_law) (pc := 996) dL_law_996 (by decide) (fun _ => ?_) (fun z => ?_)
  · refine a_goto 1666 (μ := m_L_law) (pc := 1011) dL_law_1011 (by decide) ?_
    exact a_lv [2, 3, 4, 5, 6] rfl K
  · refine a_aload_n 3 3 (μ := m_L_law) (pc := 999) dL_law_999 rfl rfl ?_
    refine a_iconst (v := 0) (μ := m_L_law) (pc := 1000) dL_law_1000 (by decide) ?_
    refine a_lald (μ := m_L_law) (pc := 1001) dL_law_1001 ko (vp_n (by rw [ho]; decide)) ?_
    rw [z_nat]
    refine a_iload 0 (μ := m_L_law) (pc := 1002) dL_law_1002 rfl ?_
    refine a_i2l (μ := m_L_law) (pc := 1004) dL_law_1004 ?_
    refine a_lcmp (μ := m_L_law) (pc := 1005) dL_law_1005 ?_
    rw [h4 z, lg_self]
    refine a_if_eq 1011 (μ := m_L_law) (pc := 1006) dL_law_1006 (by decide) (fun _ => ?_) (fun z => absurd rfl z)
    refine a_goto 1666 (μ := m_L_law) (pc := 1011) dL_law_1011 (by decide) ?_
    exact a_lv [2, 3, 4, 5, 6] rfl K
set_option maxHeartbeats 4000000 in
theorem lw_19 {l : Launch} {D : va_G} {cy : Nat → ClassId} {N d rc rs : Nat} {P : Option Value → hp → Prop} {X : String → hp → Prop} {g : gp} (wt : WT g) (hl : l.stackTraces = false) (hd : 91 ≤ d) {x m o : Nat} {i : Int32} {δ : dp} (kx : q_K g x = 11) (km : q_K g m = 12) (ko : q_K g o = 14) (ho : q_N g o = 1) (hin : ∀ v : Int32, v ∈ [1, 2, 3, 4, 5] → vp_in (i + v) (D.2 102 1)) {kk b : Int32} {δ1 δ2 : dp} (h1 : D_L_asked N g x (sc D (i + 1)) (sc D (i + 2)) (sc D (i + 3)) (sc D (i + 4)) o δ = some (kk, δ1)) (h2 : D_X12_asked N g m (sc D (i + 1)) (sc D (i + 2)) (sc D (i + 3)) (sc D (i + 4)) δ1 = some (b, δ2)) (K : AW l D cy m_L_law d rc rs P X 1666 (lv0 D x m o i) [] (g, δ2)) : AW l D cy m_L_law d (rc + 3) (rs + 18) P X 1014 (lv0 D x m o i) [] (g, δ) := by
  refine a_wk (rc' := rc + 3) (rs' := rs + 18) (by omega) (by omega) ?_
  refine a_aload_n 3 1 (μ := m_L_law) (pc := 1014) dL_law_1014 rfl rfl ?_
  refine l_arg (v := 1) 4 0 1015 dL_law_1015 dL_law_1016 dL_law_1018 dL_law_1019 dL_law_1020 rfl rfl (by decide) (hin 1 (by decide)) ?_
  refine l_arg (v := 2) 4 0 1021 dL_law_1021 dL_law_1022 dL_law_1024 dL_law_1025 dL_law_1026 rfl rfl (by decide) (hin 2 (by decide)) ?_
  refine l_arg (v := 3) 4 0 1027 dL_law_1027 dL_law_1028 dL_law_1030 dL_law_1031 dL_law_1032 rfl rfl (by decide) (hin 3 (by decide)) ?_
  refine l_arg (v := 4) 4 0 1033 dL_law_1033 dL_law_1034 dL_law_1036 dL_law_1037 dL_law_1038 rfl rfl (by decide) (hin 4 (by decide)) ?_
  refine a_aload_n 1 3 (μ := m_L_law) (pc := 1039) dL_law_1039 rfl rfl ?_
  refine a_callH (hh := hh_asked) (h := (g, δ)) (rc' := rc) (rs' := rs) (mc' := 2) (ms' := 12) (As := [.ref x, .int (sc D (i + 1)), .int (sc D (i + 2)), .int (sc D (i + 3)), .int (sc D (i + 4)), .ref o]) (rest := []) (μ := m_L_law) (pc := 1040) dL_law_1040 ch_181 rfl (Nat.le_of_ble_eq_true rfl) (d' := d - 1) (by omega) (by omega) (by omega) (c_L_asked (N := N) wt hl (d := d - 1) (by omega) kx ko (kk, δ1) h1 ?_)
  show AW _ _ _ _ _ _ _ _ _ (1040 + 3) _ [.int kk] (g, δ1)
  refine a_istore ((5, .int kk) :: lv0 D x m o i) (μ := m_L_law) (pc := 1043) dL_law_1043 (by decide) rfl ?_
  refine a_aload_n 3 2 (μ := m_L_law) (pc := 1045) dL_law_1045 rfl rfl ?_
  refine l_arg (v := 1) 5 1 1046 dL_law_1046 dL_law_1047 dL_law_1049 dL_law_1050 dL_law_1051 rfl rfl (by decide) (hin 1 (by decide)) ?_
  refine l_arg (v := 2) 5 1 1052 dL_law_1052 dL_law_1053 dL_law_1055 dL_law_1056 dL_law_1057 rfl rfl (by decide) (hin 2 (by decide)) ?_
  refine l_arg (v := 3) 5 1 1058 dL_law_1058 dL_law_1059 dL_law_1061 dL_law_1062 dL_law_1063 rfl rfl (by decide) (hin 3 (by decide)) ?_
  refine l_arg (v := 4) 5 1 1064 dL_law_1064 dL_law_1065 dL_law_1067 dL_law_1068 dL_law_1069 rfl rfl (by decide) (hin 4 (by decide)) ?_
  refine a_callV (h := (g, δ1)) (rc' := rc) (rs' := rs) (As := [.int (sc D (i + 1)), .int (sc D (i + 2)), .int (sc D (i + 3)), .int (sc D (i + 4))]) (rest := []) (μ := m_L_law) (pc := 1070) dL_law_1070 cv_L_183 rfl km (by decide) rfl (Nat.le_of_ble_eq_true rfl) (d' := d - 1) (by omega) (by omega) (by omega) (c_X12_asked (N := N) wt hl (d := d - 1) (by omega) km (b, δ2) h2 _ _ ?_)
  show AW _ _ _ _ _ _ _ _ _ (1070 + 3) _ [.int b] (g, δ2)
  refine a_istore ((6, .int b) :: (5, .int kk) :: lv0 D x m o i) (μ := m_L_law) (pc := 1073) dL_law_1073 (by decide) rfl ?_
  refine a_goto 1666 (μ := m_L_law) (pc := 1075) dL_law_1075 (by decide) ?_
  exact a_lv [2, 3, 4, 5, 6] rfl K
set_option maxHeartbeats 4000000 in
theorem lw_20 {l : Launch} {D : va_G} {cy : Nat → ClassId} {N d rc rs : Nat} {P : Option Value → hp → Prop} {X : String → hp → Prop} {g : gp} (wt : WT g) (hl : l.stackTraces = false) (hd : 91 ≤ d) {x m o : Nat} {i : Int32} {δ : dp} (kx : q_K g x = 11) (km : q_K g m = 12) (ko : q_K g o = 14) (ho : q_N g o = 1) (hin : ∀ v : Int32, v ∈ [1, 2, 3, 4, 5] → vp_in (i + v) (D.2 102 1)) {kk b : Int32} {δ1 δ2 : dp} (h1 : D_L_since N g x (sc D (i + 1)) (sc D (i + 2)) (sc D (i + 3)) o δ = some (kk, δ1)) (h2 : D_X12_since N g m (sc D (i + 1)) (sc D (i + 2)) (sc D (i + 3)) δ1 = some (b, δ2)) (K : AW l D cy m_L_law d rc rs P X 1666 (lv0 D x m o i) [] (g, δ2)) : AW l D cy m_L_law d (rc + 3) (rs + 18) P X 1078 (lv0 D x m o i) [] (g, δ) := by
  refine a_wk (rc' := rc + 3) (rs' := rs + 18) (by omega) (by omega) ?_
  refine a_aload_n 3 1 (μ := m_L_law) (pc := 1078) dL_law_1078 rfl rfl ?_
  refine l_arg (v := 1) 4 0 1079 dL_law_1079 dL_law_1080 dL_law_1082 dL_law_1083 dL_law_1084 rfl rfl (by decide) (hin 1 (by decide)) ?_
  refine l_arg (v := 2) 4 0 1085 dL_law_1085 dL_law_1086 dL_law_1088 dL_law_1089 dL_law_1090 rfl rfl (by decide) (hin 2 (by decide)) ?_
  refine l_arg (v := 3) 4 0 1091 dL_law_1091 dL_law_1092 dL_law_1094 dL_law_1095 dL_law_1096 rfl rfl (by decide) (hin 3 (by decide)) ?_
  refine a_aload_n 1 3 (μ := m_L_law) (pc := 1097) dL_law_1097 rfl rfl ?_
  refine a_callH (hh := hh_since) (h := (g, δ)) (rc' := rc) (rs' := rs) (mc' := 2) (ms' := 12) (As := [.ref x, .int (sc D (i + 1)), .int (sc D (i + 2)), .int (sc D (i + 3)), .ref o]) (rest := []) (μ := m_L_law) (pc := 1098) dL_law_1098 ch_184 rfl (Nat.le_of_ble_eq_true rfl) (d' := d - 1) (by omega) (by omega) (by omega) (c_L_since (N := N) wt hl (d := d - 1) (by omega) kx ko (kk, δ1) h1 ?_)
  show AW _ _ _ _ _ _ _ _ _ (1098 + 3) _ [.int kk] (g, δ1)
  refine a_istore ((5, .int kk) :: lv0 D x m o i) (μ := m_L_law) (pc := 1101) dL_law_1101 (by decide) rfl ?_
  refine a_aload_n 3 2 (μ := m_L_law) (pc := 1103) dL_law_1103 rfl rfl ?_
  refine l_arg (v := 1) 5 1 1104 dL_law_1104 dL_law_1105 dL_law_1107 dL_law_1108 dL_law_1109 rfl rfl (by decide) (hin 1 (by decide)) ?_
  refine l_arg (v := 2) 5 1 1110 dL_law_1110 dL_law_1111 dL_law_1113 dL_law_1114 dL_law_1115 rfl rfl (by decide) (hin 2 (by decide)) ?_
  refine l_arg (v := 3) 5 1 1116 dL_law_1116 dL_law_1117 dL_law_1119 dL_law_1120 dL_law_1121 rfl rfl (by decide) (hin 3 (by decide)) ?_
  refine a_callV (h := (g, δ1)) (rc' := rc) (rs' := rs) (As := [.int (sc D (i + 1)), .int (sc D (i + 2)), .int (sc D (i + 3))]) (rest := []) (μ := m_L_law) (pc := 1122) dL_law_1122 cv_L_186 rfl km (by decide) rfl (Nat.le_of_ble_eq_true rfl) (d' := d - 1) (by omega) (by omega) (by omega) (c_X12_since (N := N) wt hl (d := d - 1) (by omega) km (b, δ2) h2 _ _ ?_)
  show AW _ _ _ _ _ _ _ _ _ (1122 + 3) _ [.int b] (g, δ2)
  refine a_istore ((6, .int b) :: (5, .int kk) :: lv0 D x m o i) (μ := m_L_law) (pc := 1125) dL_law_1125 (by decide) rfl ?_
  refine a_goto 1666 (μ := m_L_law) (pc := 1127) dL_law_1127 (by decide) ?_
  exact a_lv [2, 3, 4, 5, 6] rfl K
set_option maxHeartbeats 4000000 in
theorem lw_21 {l : Launch} {D : va_G} {cy : Nat → ClassId} {N d rc rs : Nat} {P : Option Value → hp → Prop} {X : String → hp → Prop} {g : gp} (wt : WT g) (hl : l.stackTraces = false) (hd : 91 ≤ d) {x m o : Nat} {i : Int32} {δ : dp} (kx : q_K g x = 11) (km : q_K g m = 12) (ko : q_K g o = 14) (ho : q_N g o = 1) (hin : ∀ v : Int32, v ∈ [1, 2, 3, 4, 5] → vp_in (i + v) (D.2 102 1)) {kk b : Int32} {δ1 δ2 : dp} (h1 : D_L_room N g x (sc D (i + 1)) (sc D (i + 2)) o δ = some (kk, δ1)) (h2 : D_X12_room N g m (sc D (i + 1)) (sc D (i + 2)) δ1 = some (b, δ2)) (K : AW l D cy m_L_law d rc rs P X 1666 (lv0 D x m o i) [] (g, δ2)) : AW l D cy m_L_law d (rc + 3) (rs + 18) P X 1130 (lv0 D x m o i) [] (g, δ) := by
  refine a_wk (rc' := rc + 3) (rs' := rs + 18) (by omega) (by omega) ?_
  refine a_aload_n 3 1 (μ := m_L_law) (pc := 1130) dL_law_1130 rfl rfl ?_
  refine l_arg (v := 1) 4 0 1131 dL_law_1131 dL_law_1132 dL_law_1134 dL_law_1135 dL_law_1136 rfl rfl (by decide) (hin 1 (by decide)) ?_
  refine l_arg (v := 2) 4 0 1137 dL_law_1137 dL_law_1138 dL_law_1140 dL_law_1141 dL_law_1142 rfl rfl (by decide) (hin 2 (by decide)) ?_
  refine a_aload_n 1 3 (μ := m_L_law) (pc := 1143) dL_law_1143 rfl rfl ?_
  refine a_callH (hh := hh_room) (h := (g, δ)) (rc' := rc) (rs' := rs) (mc' := 2) (ms' := 12) (As := [.ref x, .int (sc D (i + 1)), .int (sc D (i + 2)), .ref o]) (rest := []) (μ := m_L_law) (pc := 1144) dL_law_1144 ch_187 rfl (Nat.le_of_ble_eq_true rfl) (d' := d - 1) (by omega) (by omega) (by omega) (c_L_room (N := N) wt hl (d := d - 1) (by omega) kx ko (kk, δ1) h1 ?_)
  show AW _ _ _ _ _ _ _ _ _ (1144 + 3) _ [.int kk] (g, δ1)
  refine a_istore ((5, .int kk) :: lv0 D x m o i) (μ := m_L_law) (pc := 1147) dL_law_1147 (by decide) rfl ?_
  refine a_aload_n 3 2 (μ := m_L_law) (pc := 1149) dL_law_1149 rfl rfl ?_
  refine l_arg (v := 1) 5 1 1150 dL_law_1150 dL_law_1151 dL_law_1153 dL_law_1154 dL_law_1155 rfl rfl (by decide) (hin 1 (by decide)) ?_
  refine l_arg (v := 2) 5 1 1156 dL_law_1156 dL_law_1157 dL_law_1159 dL_law_1160 dL_law_1161 rfl rfl (by decide) (hin 2 (by decide)) ?_
  refine a_callV (h := (g, δ1)) (rc' := rc) (rs' := rs) (As := [.int (sc D (i + 1)), .int (sc D (i + 2))]) (rest := []) (μ := m_L_law) (pc := 1162) dL_law_1162 cv_L_189 rfl km (by decide) rfl (Nat.le_of_ble_eq_true rfl) (d' := d - 1) (by omega) (by omega) (by omega) (c_X12_room (N := N) wt hl (d := d - 1) (by omega) km (b, δ2) h2 _ _ ?_)
  show AW _ _ _ _ _ _ _ _ _ (1162 + 3) _ [.int b] (g, δ2)
  refine a_istore ((6, .int b) :: (5, .int kk) :: lv0 D x m o i) (μ := m_L_law) (pc := 1165) dL_law_1165 (by decide) rfl ?_
  refine a_goto 1666 (μ := m_L_law) (pc := 1167) dL_law_1167 (by decide) ?_
  exact a_lv [2, 3, 4, 5, 6] rfl K
set_option maxHeartbeats 4000000 in
theorem lw_22 {l : Launch} {D : va_G} {cy : Nat → ClassId} {N d rc rs : Nat} {P : Option Value → hp → Prop} {X : String → hp → Prop} {g : gp} (wt : WT g) (hl : l.stackTraces = false) (hd : 91 ≤ d) {x m o : Nat} {i : Int32} {δ : dp} (kx : q_K g x = 11) (km : q_K g m = 12) (ko : q_K g o = 14) (ho : q_N g o = 1) (hin : ∀ v : Int32, v ∈ [1, 2, 3, 4, 5] → vp_in (i + v) (D.2 102 1)) {kk b : Int32} {δ1 δ2 : dp} (h1 : D_L_joins N g x (sc D (i + 1)) (sc D (i + 2)) (sc D (i + 3)) o δ = some (kk, δ1)) (h2 : D_X12_joins N g m (sc D (i + 1)) (sc D (i + 2)) (sc D (i + 3)) δ1 = some (b, δ2)) (K : AW l D cy m_L_law d rc rs P X 1666 (lv0 D x m o i) [] (g, δ2)) : AW l D cy m_L_law d (rc + 3) (rs + 18) P X 1170 (lv0 D x m o i) [] (g, δ) := by
  refine a_wk (rc' := rc + 3) (rs' := rs + 18) (by omega) (by omega) ?_
  refine a_aload_n 3 1 (μ := m_L_law) (pc := 1170) dL_law_1170 rfl rfl ?_
  refine l_arg (v := 1) 4 0 1171 dL_law_1171 dL_law_1172 dL_law_1174 dL_law_1175 dL_law_1176 rfl rfl (by decide) (hin 1 (by decide)) ?_
  refine l_arg (v := 2) 4 0 1177 dL_law_1177 dL_law_1178 dL_law_1180 dL_law_1181 dL_law_1182 rfl rfl (by decide) (hin 2 (by decide)) ?_
  refine l_arg (v := 3) 4 0 1183 dL_law_1183 dL_law_1184 dL_law_1186 dL_law_1187 dL_law_1188 rfl rfl (by decide) (hin 3 (by decide)) ?_
  refine a_aload_n 1 3 (μ := m_L_law) (pc := 1189) dL_law_1189 rfl rfl ?_
  refine a_callH (hh := hh_joins) (h := (g, δ)) (rc' := rc) (rs' := rs) (mc' := 3) (ms' := 18) (As := [.ref x, .int (sc D (i + 1)), .int (sc D (i + 2)), .int (sc D (i + 3)), .ref o]) (rest := []) (μ := m_L_law) (pc := 1190) dL_law_1190 ch_190 rfl (Nat.le_of_ble_eq_true rfl) (d' := d - 1) (by omega) (by omega) (by omega) (c_L_joins (N := N) wt hl (d := d - 1) (by omega) kx ko (kk, δ1) h1 ?_)
  show AW _ _ _ _ _ _ _ _ _ (1190 + 3) _ [.int kk] (g, δ1)
  refine a_istore ((5, .int kk) :: lv0 D x m o i) (μ := m_L_law) (pc := 1193) dL_law_1193 (by decide) rfl ?_
  refine a_aload_n 3 2 (μ := m_L_law) (pc := 1195) dL_law_1195 rfl rfl ?_
  refine l_arg (v := 1) 5 1 1196 dL_law_1196 dL_law_1197 dL_law_1199 dL_law_1200 dL_law_1201 rfl rfl (by decide) (hin 1 (by decide)) ?_
  refine l_arg (v := 2) 5 1 1202 dL_law_1202 dL_law_1203 dL_law_1205 dL_law_1206 dL_law_1207 rfl rfl (by decide) (hin 2 (by decide)) ?_
  refine l_arg (v := 3) 5 1 1208 dL_law_1208 dL_law_1209 dL_law_1211 dL_law_1212 dL_law_1213 rfl rfl (by decide) (hin 3 (by decide)) ?_
  refine a_callV (h := (g, δ1)) (rc' := rc) (rs' := rs) (As := [.int (sc D (i + 1)), .int (sc D (i + 2)), .int (sc D (i + 3))]) (rest := []) (μ := m_L_law) (pc := 1214) dL_law_1214 cv_L_192 rfl km (by decide) rfl (Nat.le_of_ble_eq_true rfl) (d' := d - 1) (by omega) (by omega) (by omega) (c_X12_joins (N := N) wt hl (d := d - 1) (by omega) km (b, δ2) h2 _ _ ?_)
  show AW _ _ _ _ _ _ _ _ _ (1214 + 3) _ [.int b] (g, δ2)
  refine a_istore ((6, .int b) :: (5, .int kk) :: lv0 D x m o i) (μ := m_L_law) (pc := 1217) dL_law_1217 (by decide) rfl ?_
  refine a_goto 1666 (μ := m_L_law) (pc := 1219) dL_law_1219 (by decide) ?_
  exact a_lv [2, 3, 4, 5, 6] rfl K
set_option maxHeartbeats 4000000 in
theorem lw_23 {l : Launch} {D : va_G} {cy : Nat → ClassId} {N d rc rs : Nat} {P : Option Value → hp → Prop} {X : String → hp → Prop} {g : gp} (wt : WT g) (hl : l.stackTraces = false) (hd : 91 ≤ d) {x m o : Nat} {i : Int32} {δ : dp} (kx : q_K g x = 11) (km : q_K g m = 12) (ko : q_K g o = 14) (ho : q_N g o = 1) (hin : ∀ v : Int32, v ∈ [1, 2, 3, 4, 5] → vp_in (i + v) (D.2 102 1)) {kk b : Int32} {δ1 δ2 : dp} (h1 : D_L_runs N g x (sc D (i + 1)) (sc D (i + 2)) o δ = some (kk, δ1)) (h2 : D_X12_runs N g m (sc D (i + 1)) (sc D (i + 2)) δ1 = some (b, δ2)) (K : AW l D cy m_L_law d rc rs P X 1666 (lv0 D x m o i) [] (g, δ2)) : AW l D cy m_L_law d (rc + 3) (rs + 18) P X 1222 (lv0 D x m o i) [] (g, δ) := by
  refine a_wk (rc' := rc + 3) (rs' := rs + 18) (by omega) (by omega) ?_
  refine a_aload_n 3 1 (μ := m_L_law) (pc := 1222) dL_law_1222 rfl rfl ?_
  refine l_arg (v := 1) 4 0 1223 dL_law_1223 dL_law_1224 dL_law_1226 dL_law_1227 dL_law_1228 rfl rfl (by decide) (hin 1 (by decide)) ?_
  refine l_arg (v := 2) 4 0 1229 dL_law_1229 dL_law_1230 dL_law_1232 dL_law_1233 dL_law_1234 rfl rfl (by decide) (hin 2 (by decide)) ?_
  refine a_aload_n 1 3 (μ := m_L_law) (pc := 1235) dL_law_1235 rfl rfl ?_
  refine a_callH (hh := hh_runs) (h := (g, δ)) (rc' := rc) (rs' := rs) (mc' := 2) (ms' := 12) (As := [.ref x, .int (sc D (i + 1)), .int (sc D (i + 2)), .ref o]) (rest := []) (μ := m_L_law) (pc := 1236) dL_law_1236 ch_193 rfl (Nat.le_of_ble_eq_true rfl) (d' := d - 1) (by omega) (by omega) (by omega) (c_L_runs (N := N) wt hl (d := d - 1) (by omega) kx ko (kk, δ1) h1 ?_)
  show AW _ _ _ _ _ _ _ _ _ (1236 + 3) _ [.int kk] (g, δ1)
  refine a_istore ((5, .int kk) :: lv0 D x m o i) (μ := m_L_law) (pc := 1239) dL_law_1239 (by decide) rfl ?_
  refine a_aload_n 3 2 (μ := m_L_law) (pc := 1241) dL_law_1241 rfl rfl ?_
  refine l_arg (v := 1) 5 1 1242 dL_law_1242 dL_law_1243 dL_law_1245 dL_law_1246 dL_law_1247 rfl rfl (by decide) (hin 1 (by decide)) ?_
  refine l_arg (v := 2) 5 1 1248 dL_law_1248 dL_law_1249 dL_law_1251 dL_law_1252 dL_law_1253 rfl rfl (by decide) (hin 2 (by decide)) ?_
  refine a_callV (h := (g, δ1)) (rc' := rc) (rs' := rs) (As := [.int (sc D (i + 1)), .int (sc D (i + 2))]) (rest := []) (μ := m_L_law) (pc := 1254) dL_law_1254 cv_L_195 rfl km (by decide) rfl (Nat.le_of_ble_eq_true rfl) (d' := d - 1) (by omega) (by omega) (by omega) (c_X12_runs (N := N) wt hl (d := d - 1) (by omega) km (b, δ2) h2 _ _ ?_)
  show AW _ _ _ _ _ _ _ _ _ (1254 + 3) _ [.int b] (g, δ2)
  refine a_istore ((6, .int b) :: (5, .int kk) :: lv0 D x m o i) (μ := m_L_law) (pc := 1257) dL_law_1257 (by decide) rfl ?_
  refine a_goto 1666 (μ := m_L_law) (pc := 1259) dL_law_1259 (by decide) ?_
  exact a_lv [2, 3, 4, 5, 6] rfl K
set_option maxHeartbeats 4000000 in
theorem lw_24 {l : Launch} {D : va_G} {cy : Nat → ClassId} {N d rc rs : Nat} {P : Option Value → hp → Prop} {X : String → hp → Prop} {g : gp} (wt : WT g) (hl : l.stackTraces = false) (hd : 91 ≤ d) {x m o : Nat} {i : Int32} {δ : dp} (kx : q_K g x = 11) (km : q_K g m = 12) (ko : q_K g o = 14) (ho : q_N g o = 1) (hin : ∀ v : Int32, v ∈ [1, 2, 3, 4, 5] → vp_in (i + v) (D.2 102 1)) {kk b : Int32} {δ1 δ2 : dp} (h1 : D_L_steals N g x (sc D (i + 1)) (sc D (i + 2)) (sc D (i + 3)) (sc D (i + 4)) o δ = some (kk, δ1)) (h2 : D_X12_steals N g m (sc D (i + 1)) (sc D (i + 2)) (sc D (i + 3)) (sc D (i + 4)) δ1 = some (b, δ2)) (K : AW l D cy m_L_law d rc rs P X 1666 (lv0 D x m o i) [] (g, δ2)) : AW l D cy m_L_law d (rc + 3) (rs + 18) P X 1262 (lv0 D x m o i) [] (g, δ) := by
  refine a_wk (rc' := rc + 3) (rs' := rs + 18) (by omega) (by omega) ?_
  refine a_aload_n 3 1 (μ := m_L_law) (pc := 1262) dL_law_1262 rfl rfl ?_
  refine l_arg (v := 1) 4 0 1263 dL_law_1263 dL_law_1264 dL_law_1266 dL_law_1267 dL_law_1268 rfl rfl (by decide) (hin 1 (by decide)) ?_
  refine l_arg (v := 2) 4 0 1269 dL_law_1269 dL_law_1270 dL_law_1272 dL_law_1273 dL_law_1274 rfl rfl (by decide) (hin 2 (by decide)) ?_
  refine l_arg (v := 3) 4 0 1275 dL_law_1275 dL_law_1276 dL_law_1278 dL_law_1279 dL_law_1280 rfl rfl (by decide) (hin 3 (by decide)) ?_
  refine l_arg (v := 4) 4 0 1281 dL_law_1281 dL_law_1282 dL_law_1284 dL_law_1285 dL_law_1286 rfl rfl (by decide) (hin 4 (by decide)) ?_
  refine a_aload_n 1 3 (μ := m_L_law) (pc := 1287) dL_law_1287 rfl rfl ?_
  refine a_callH (hh := hh_steals) (h := (g, δ)) (rc' := rc) (rs' := rs) (mc' := 3) (ms' := 18) (As := [.ref x, .int (sc D (i + 1)), .int (sc D (i + 2)), .int (sc D (i + 3)), .int (sc D (i + 4)), .ref o]) (rest := []) (μ := m_L_law) (pc := 1288) dL_law_1288 ch_196 rfl (Nat.le_of_ble_eq_true rfl) (d' := d - 1) (by omega) (by omega) (by omega) (c_L_steals (N := N) wt hl (d := d - 1) (by omega) kx ko (kk, δ1) h1 ?_)
  show AW _ _ _ _ _ _ _ _ _ (1288 + 3) _ [.int kk] (g, δ1)
  refine a_istore ((5, .int kk) :: lv0 D x m o i) (μ := m_L_law) (pc := 1291) dL_law_1291 (by decide) rfl ?_
  refine a_aload_n 3 2 (μ := m_L_law) (pc := 1293) dL_law_1293 rfl rfl ?_
  refine l_arg (v := 1) 5 1 1294 dL_law_1294 dL_law_1295 dL_law_1297 dL_law_1298 dL_law_1299 rfl rfl (by decide) (hin 1 (by decide)) ?_
  refine l_arg (v := 2) 5 1 1300 dL_law_1300 dL_law_1301 dL_law_1303 dL_law_1304 dL_law_1305 rfl rfl (by decide) (hin 2 (by decide)) ?_
  refine l_arg (v := 3) 5 1 1306 dL_law_1306 dL_law_1307 dL_law_1309 dL_law_1310 dL_law_1311 rfl rfl (by decide) (hin 3 (by decide)) ?_
  refine l_arg (v := 4) 5 1 1312 dL_law_1312 dL_law_1313 dL_law_1315 dL_law_1316 dL_law_1317 rfl rfl (by decide) (hin 4 (by decide)) ?_
  refine a_callV (h := (g, δ1)) (rc' := rc) (rs' := rs) (As := [.int (sc D (i + 1)), .int (sc D (i + 2)), .int (sc D (i + 3)), .int (sc D (i + 4))]) (rest := []) (μ := m_L_law) (pc := 1318) dL_law_1318 cv_L_198 rfl km (by decide) rfl (Nat.le_of_ble_eq_true rfl) (d' := d - 1) (by omega) (by omega) (by omega) (c_X12_steals (N := N) wt hl (d := d - 1) (by omega) km (b, δ2) h2 _ _ ?_)
  show AW _ _ _ _ _ _ _ _ _ (1318 + 3) _ [.int b] (g, δ2)
  refine a_istore ((6, .int b) :: (5, .int kk) :: lv0 D x m o i) (μ := m_L_law) (pc := 1321) dL_law_1321 (by decide) rfl ?_
  refine a_goto 1666 (μ := m_L_law) (pc := 1323) dL_law_1323 (by decide) ?_
  exact a_lv [2, 3, 4, 5, 6] rfl K
set_option maxHeartbeats 4000000 in
theorem lw_25 {l : Launch} {D : va_G} {cy : Nat → ClassId} {N d rc rs : Nat} {P : Option Value → hp → Prop} {X : String → hp → Prop} {g : gp} (wt : WT g) (hl : l.stackTraces = false) (hd : 91 ≤ d) {x m o : Nat} {i : Int32} {δ : dp} (kx : q_K g x = 11) (km : q_K g m = 12) (ko : q_K g o = 14) (ho : q_N g o = 1) (hin : ∀ v : Int32, v ∈ [1, 2, 3, 4, 5] → vp_in (i + v) (D.2 102 1)) {kk b : Int32} {δ1 δ2 : dp} (h1 : D_L_reached N g x (sc D (i + 1)) o δ = some (kk, δ1)) (h2 : D_X12_reached N g m (sc D (i + 1)) δ1 = some (b, δ2)) (K : AW l D cy m_L_law d rc rs P X 1666 (lv0 D x m o i) [] (g, δ2)) : AW l D cy m_L_law d (rc + 3) (rs + 18) P X 1326 (lv0 D x m o i) [] (g, δ) := by
  refine a_wk (rc' := rc + 3) (rs' := rs + 18) (by omega) (by omega) ?_
  refine a_aload_n 3 1 (μ := m_L_law) (pc := 1326) dL_law_1326 rfl rfl ?_
  refine l_arg (v := 1) 4 0 1327 dL_law_1327 dL_law_1328 dL_law_1330 dL_law_1331 dL_law_1332 rfl rfl (by decide) (hin 1 (by decide)) ?_
  refine a_aload_n 1 3 (μ := m_L_law) (pc := 1333) dL_law_1333 rfl rfl ?_
  refine a_callH (hh := hh_reached) (h := (g, δ)) (rc' := rc) (rs' := rs) (mc' := 1) (ms' := 6) (As := [.ref x, .int (sc D (i + 1)), .ref o]) (rest := []) (μ := m_L_law) (pc := 1334) dL_law_1334 ch_199 rfl (Nat.le_of_ble_eq_true rfl) (d' := d - 1) (by omega) (by omega) (by omega) (c_L_reached (N := N) wt hl (d := d - 1) (by omega) kx ko (kk, δ1) h1 ?_)
  show AW _ _ _ _ _ _ _ _ _ (1334 + 3) _ [.int kk] (g, δ1)
  refine a_istore ((5, .int kk) :: lv0 D x m o i) (μ := m_L_law) (pc := 1337) dL_law_1337 (by decide) rfl ?_
  refine a_aload_n 3 2 (μ := m_L_law) (pc := 1339) dL_law_1339 rfl rfl ?_
  refine l_arg (v := 1) 5 1 1340 dL_law_1340 dL_law_1341 dL_law_1343 dL_law_1344 dL_law_1345 rfl rfl (by decide) (hin 1 (by decide)) ?_
  refine a_callV (h := (g, δ1)) (rc' := rc) (rs' := rs) (As := [.int (sc D (i + 1))]) (rest := []) (μ := m_L_law) (pc := 1346) dL_law_1346 cv_L_201 rfl km (by decide) rfl (Nat.le_of_ble_eq_true rfl) (d' := d - 1) (by omega) (by omega) (by omega) (c_X12_reached (N := N) wt hl (d := d - 1) (by omega) km (b, δ2) h2 _ _ ?_)
  show AW _ _ _ _ _ _ _ _ _ (1346 + 3) _ [.int b] (g, δ2)
  refine a_istore ((6, .int b) :: (5, .int kk) :: lv0 D x m o i) (μ := m_L_law) (pc := 1349) dL_law_1349 (by decide) rfl ?_
  refine a_goto 1666 (μ := m_L_law) (pc := 1351) dL_law_1351 (by decide) ?_
  exact a_lv [2, 3, 4, 5, 6] rfl K
set_option maxHeartbeats 4000000 in
theorem lw_26 {l : Launch} {D : va_G} {cy : Nat → ClassId} {N d rc rs : Nat} {P : Option Value → hp → Prop} {X : String → hp → Prop} {g : gp} (wt : WT g) (hl : l.stackTraces = false) (hd : 91 ≤ d) {x m o : Nat} {i : Int32} {δ : dp} (kx : q_K g x = 11) (km : q_K g m = 12) (ko : q_K g o = 14) (ho : q_N g o = 1) (hin : ∀ v : Int32, v ∈ [1, 2, 3, 4, 5] → vp_in (i + v) (D.2 102 1)) {kk b : Int32} {δ1 δ2 : dp} (h1 : D_L_row N g x (sc D (i + 1)) o δ = some (kk, δ1)) (h2 : D_X12_row N g m (sc D (i + 1)) δ1 = some (b, δ2)) (K : AW l D cy m_L_law d rc rs P X 1666 (lv0 D x m o i) [] (g, δ2)) : AW l D cy m_L_law d (rc + 3) (rs + 18) P X 1354 (lv0 D x m o i) [] (g, δ) := by
  refine a_wk (rc' := rc + 3) (rs' := rs + 18) (by omega) (by omega) ?_
  refine a_aload_n 3 1 (μ := m_L_law) (pc := 1354) dL_law_1354 rfl rfl ?_
  refine l_arg (v := 1) 4 0 1355 dL_law_1355 dL_law_1356 dL_law_1358 dL_law_1359 dL_law_1360 rfl rfl (by decide) (hin 1 (by decide)) ?_
  refine a_aload_n 1 3 (μ := m_L_law) (pc := 1361) dL_law_1361 rfl rfl ?_
  refine a_callH (hh := hh_row) (h := (g, δ)) (rc' := rc) (rs' := rs) (mc' := 1) (ms' := 6) (As := [.ref x, .int (sc D (i + 1)), .ref o]) (rest := []) (μ := m_L_law) (pc := 1362) dL_law_1362 ch_202 rfl (Nat.le_of_ble_eq_true rfl) (d' := d - 1) (by omega) (by omega) (by omega) (c_L_row (N := N) wt hl (d := d - 1) (by omega) kx ko (kk, δ1) h1 ?_)
  show AW _ _ _ _ _ _ _ _ _ (1362 + 3) _ [.int kk] (g, δ1)
  refine a_istore ((5, .int kk) :: lv0 D x m o i) (μ := m_L_law) (pc := 1365) dL_law_1365 (by decide) rfl ?_
  refine a_aload_n 3 2 (μ := m_L_law) (pc := 1367) dL_law_1367 rfl rfl ?_
  refine l_arg (v := 1) 5 1 1368 dL_law_1368 dL_law_1369 dL_law_1371 dL_law_1372 dL_law_1373 rfl rfl (by decide) (hin 1 (by decide)) ?_
  refine a_callV (h := (g, δ1)) (rc' := rc) (rs' := rs) (As := [.int (sc D (i + 1))]) (rest := []) (μ := m_L_law) (pc := 1374) dL_law_1374 cv_L_204 rfl km (by decide) rfl (Nat.le_of_ble_eq_true rfl) (d' := d - 1) (by omega) (by omega) (by omega) (c_X12_row (N := N) wt hl (d := d - 1) (by omega) km (b, δ2) h2 _ _ ?_)
  show AW _ _ _ _ _ _ _ _ _ (1374 + 3) _ [.int b] (g, δ2)
  refine a_istore ((6, .int b) :: (5, .int kk) :: lv0 D x m o i) (μ := m_L_law) (pc := 1377) dL_law_1377 (by decide) rfl ?_
  refine a_goto 1666 (μ := m_L_law) (pc := 1379) dL_law_1379 (by decide) ?_
  exact a_lv [2, 3, 4, 5, 6] rfl K
set_option maxHeartbeats 4000000 in
theorem lw_27 {l : Launch} {D : va_G} {cy : Nat → ClassId} {N d rc rs : Nat} {P : Option Value → hp → Prop} {X : String → hp → Prop} {g : gp} (wt : WT g) (hl : l.stackTraces = false) (hd : 91 ≤ d) {x m o : Nat} {i : Int32} {δ : dp} (kx : q_K g x = 11) (km : q_K g m = 12) (ko : q_K g o = 14) (ho : q_N g o = 1) (hin : ∀ v : Int32, v ∈ [1, 2, 3, 4, 5] → vp_in (i + v) (D.2 102 1)) {kk b : Int32} {δ1 δ2 : dp} (h1 : D_L_rowCall N g x (sc D (i + 1)) (sc D (i + 2)) o δ = some (kk, δ1)) (h2 : D_X12_rowCall N g m (sc D (i + 1)) (sc D (i + 2)) δ1 = some (b, δ2)) (K : AW l D cy m_L_law d rc rs P X 1666 (lv0 D x m o i) [] (g, δ2)) : AW l D cy m_L_law d (rc + 3) (rs + 18) P X 1382 (lv0 D x m o i) [] (g, δ) := by
  refine a_wk (rc' := rc + 3) (rs' := rs + 18) (by omega) (by omega) ?_
  refine a_aload_n 3 1 (μ := m_L_law) (pc := 1382) dL_law_1382 rfl rfl ?_
  refine l_arg (v := 1) 4 0 1383 dL_law_1383 dL_law_1384 dL_law_1386 dL_law_1387 dL_law_1388 rfl rfl (by decide) (hin 1 (by decide)) ?_
  refine l_arg (v := 2) 4 0 1389 dL_law_1389 dL_law_1390 dL_law_1392 dL_law_1393 dL_law_1394 rfl rfl (by decide) (hin 2 (by decide)) ?_
  refine a_aload_n 1 3 (μ := m_L_law) (pc := 1395) dL_law_1395 rfl rfl ?_
  refine a_callH (hh := hh_rowCall) (h := (g, δ)) (rc' := rc) (rs' := rs) (mc' := 1) (ms' := 6) (As := [.ref x, .int (sc D (i + 1)), .int (sc D (i + 2)), .ref o]) (rest := []) (μ := m_L_law) (pc := 1396) dL_law_1396 ch_205 rfl (Nat.le_of_ble_eq_true rfl) (d' := d - 1) (by omega) (by omega) (by omega) (c_L_rowCall (N := N) wt hl (d := d - 1) (by omega) kx ko (kk, δ1) h1 ?_)
  show AW _ _ _ _ _ _ _ _ _ (1396 + 3) _ [.int kk] (g, δ1)
  refine a_istore ((5, .int kk) :: lv0 D x m o i) (μ := m_L_law) (pc := 1399) dL_law_1399 (by decide) rfl ?_
  refine a_aload_n 3 2 (μ := m_L_law) (pc := 1401) dL_law_1401 rfl rfl ?_
  refine l_arg (v := 1) 5 1 1402 dL_law_1402 dL_law_1403 dL_law_1405 dL_law_1406 dL_law_1407 rfl rfl (by decide) (hin 1 (by decide)) ?_
  refine l_arg (v := 2) 5 1 1408 dL_law_1408 dL_law_1409 dL_law_1411 dL_law_1412 dL_law_1413 rfl rfl (by decide) (hin 2 (by decide)) ?_
  refine a_callV (h := (g, δ1)) (rc' := rc) (rs' := rs) (As := [.int (sc D (i + 1)), .int (sc D (i + 2))]) (rest := []) (μ := m_L_law) (pc := 1414) dL_law_1414 cv_L_207 rfl km (by decide) rfl (Nat.le_of_ble_eq_true rfl) (d' := d - 1) (by omega) (by omega) (by omega) (c_X12_rowCall (N := N) wt hl (d := d - 1) (by omega) km (b, δ2) h2 _ _ ?_)
  show AW _ _ _ _ _ _ _ _ _ (1414 + 3) _ [.int b] (g, δ2)
  refine a_istore ((6, .int b) :: (5, .int kk) :: lv0 D x m o i) (μ := m_L_law) (pc := 1417) dL_law_1417 (by decide) rfl ?_
  refine a_goto 1666 (μ := m_L_law) (pc := 1419) dL_law_1419 (by decide) ?_
  exact a_lv [2, 3, 4, 5, 6] rfl K
set_option maxHeartbeats 4000000 in
theorem lw_28 {l : Launch} {D : va_G} {cy : Nat → ClassId} {N d rc rs : Nat} {P : Option Value → hp → Prop} {X : String → hp → Prop} {g : gp} (wt : WT g) (hl : l.stackTraces = false) (hd : 91 ≤ d) {x m o : Nat} {i : Int32} {δ : dp} (kx : q_K g x = 11) (km : q_K g m = 12) (ko : q_K g o = 14) (ho : q_N g o = 1) (hin : ∀ v : Int32, v ∈ [1, 2, 3, 4, 5] → vp_in (i + v) (D.2 102 1)) {kk b : Int32} {δ1 δ2 : dp} (h1 : D_L_split N g x (sc D (i + 1)) (sc D (i + 2)) (sc D (i + 3)) o δ = some (kk, δ1)) (h2 : D_X12_split N g m (sc D (i + 1)) (sc D (i + 2)) (sc D (i + 3)) δ1 = some (b, δ2)) (K : AW l D cy m_L_law d rc rs P X 1666 (lv0 D x m o i) [] (g, δ2)) : AW l D cy m_L_law d (rc + 3) (rs + 18) P X 1422 (lv0 D x m o i) [] (g, δ) := by
  refine a_wk (rc' := rc + 3) (rs' := rs + 18) (by omega) (by omega) ?_
  refine a_aload_n 3 1 (μ := m_L_law) (pc := 1422) dL_law_1422 rfl rfl ?_
  refine l_arg (v := 1) 4 0 1423 dL_law_1423 dL_law_1424 dL_law_1426 dL_law_1427 dL_law_1428 rfl rfl (by decide) (hin 1 (by decide)) ?_
  refine l_arg (v := 2) 4 0 1429 dL_law_1429 dL_law_1430 dL_law_1432 dL_law_1433 dL_law_1434 rfl rfl (by decide) (hin 2 (by decide)) ?_
  refine l_arg (v := 3) 4 0 1435 dL_law_1435 dL_law_1436 dL_law_1438 dL_law_1439 dL_law_1440 rfl rfl (by decide) (hin 3 (by decide)) ?_
  refine a_aload_n 1 3 (μ := m_L_law) (pc := 1441) dL_law_1441 rfl rfl ?_
  refine a_callH (hh := hh_split) (h := (g, δ)) (rc' := rc) (rs' := rs) (mc' := 3) (ms' := 18) (As := [.ref x, .int (sc D (i + 1)), .int (sc D (i + 2)), .int (sc D (i + 3)), .ref o]) (rest := []) (μ := m_L_law) (pc := 1442) dL_law_1442 ch_208 rfl (Nat.le_of_ble_eq_true rfl) (d' := d - 1) (by omega) (by omega) (by omega) (c_L_split (N := N) wt hl (d := d - 1) (by omega) kx ko (kk, δ1) h1 ?_)
  show AW _ _ _ _ _ _ _ _ _ (1442 + 3) _ [.int kk] (g, δ1)
  refine a_istore ((5, .int kk) :: lv0 D x m o i) (μ := m_L_law) (pc := 1445) dL_law_1445 (by decide) rfl ?_
  refine a_aload_n 3 2 (μ := m_L_law) (pc := 1447) dL_law_1447 rfl rfl ?_
  refine l_arg (v := 1) 5 1 1448 dL_law_1448 dL_law_1449 dL_law_1451 dL_law_1452 dL_law_1453 rfl rfl (by decide) (hin 1 (by decide)) ?_
  refine l_arg (v := 2) 5 1 1454 dL_law_1454 dL_law_1455 dL_law_1457 dL_law_1458 dL_law_1459 rfl rfl (by decide) (hin 2 (by decide)) ?_
  refine l_arg (v := 3) 5 1 1460 dL_law_1460 dL_law_1461 dL_law_1463 dL_law_1464 dL_law_1465 rfl rfl (by decide) (hin 3 (by decide)) ?_
  refine a_callV (h := (g, δ1)) (rc' := rc) (rs' := rs) (As := [.int (sc D (i + 1)), .int (sc D (i + 2)), .int (sc D (i + 3))]) (rest := []) (μ := m_L_law) (pc := 1466) dL_law_1466 cv_L_210 rfl km (by decide) rfl (Nat.le_of_ble_eq_true rfl) (d' := d - 1) (by omega) (by omega) (by omega) (c_X12_split (N := N) wt hl (d := d - 1) (by omega) km (b, δ2) h2 _ _ ?_)
  show AW _ _ _ _ _ _ _ _ _ (1466 + 3) _ [.int b] (g, δ2)
  refine a_istore ((6, .int b) :: (5, .int kk) :: lv0 D x m o i) (μ := m_L_law) (pc := 1469) dL_law_1469 (by decide) rfl ?_
  refine a_goto 1666 (μ := m_L_law) (pc := 1471) dL_law_1471 (by decide) ?_
  exact a_lv [2, 3, 4, 5, 6] rfl K
set_option maxHeartbeats 4000000 in
theorem lw_29 {l : Launch} {D : va_G} {cy : Nat → ClassId} {N d rc rs : Nat} {P : Option Value → hp → Prop} {X : String → hp → Prop} {g : gp} (wt : WT g) (hl : l.stackTraces = false) (hd : 91 ≤ d) {x m o : Nat} {i : Int32} {δ : dp} (kx : q_K g x = 11) (km : q_K g m = 12) (ko : q_K g o = 14) (ho : q_N g o = 1) (hin : ∀ v : Int32, v ∈ [1, 2, 3, 4, 5] → vp_in (i + v) (D.2 102 1)) {kk b : Int32} {δ1 δ2 : dp} (h1 : D_L_gap N g x (sc D (i + 1)) (sc D (i + 2)) o δ = some (kk, δ1)) (h2 : D_X12_gap N g m (sc D (i + 1)) (sc D (i + 2)) δ1 = some (b, δ2)) (K : AW l D cy m_L_law d rc rs P X 1666 (lv0 D x m o i) [] (g, δ2)) : AW l D cy m_L_law d (rc + 3) (rs + 18) P X 1474 (lv0 D x m o i) [] (g, δ) := by
  refine a_wk (rc' := rc + 3) (rs' := rs + 18) (by omega) (by omega) ?_
  refine a_aload_n 3 1 (μ := m_L_law) (pc := 1474) dL_law_1474 rfl rfl ?_
  refine l_arg (v := 1) 4 0 1475 dL_law_1475 dL_law_1476 dL_law_1478 dL_law_1479 dL_law_1480 rfl rfl (by decide) (hin 1 (by decide)) ?_
  refine l_arg (v := 2) 4 0 1481 dL_law_1481 dL_law_1482 dL_law_1484 dL_law_1485 dL_law_1486 rfl rfl (by decide) (hin 2 (by decide)) ?_
  refine a_aload_n 1 3 (μ := m_L_law) (pc := 1487) dL_law_1487 rfl rfl ?_
  refine a_callH (hh := hh_gap) (h := (g, δ)) (rc' := rc) (rs' := rs) (mc' := 2) (ms' := 12) (As := [.ref x, .int (sc D (i + 1)), .int (sc D (i + 2)), .ref o]) (rest := []) (μ := m_L_law) (pc := 1488) dL_law_1488 ch_211 rfl (Nat.le_of_ble_eq_true rfl) (d' := d - 1) (by omega) (by omega) (by omega) (c_L_gap (N := N) wt hl (d := d - 1) (by omega) kx ko (kk, δ1) h1 ?_)
  show AW _ _ _ _ _ _ _ _ _ (1488 + 3) _ [.int kk] (g, δ1)
  refine a_istore ((5, .int kk) :: lv0 D x m o i) (μ := m_L_law) (pc := 1491) dL_law_1491 (by decide) rfl ?_
  refine a_aload_n 3 2 (μ := m_L_law) (pc := 1493) dL_law_1493 rfl rfl ?_
  refine l_arg (v := 1) 5 1 1494 dL_law_1494 dL_law_1495 dL_law_1497 dL_law_1498 dL_law_1499 rfl rfl (by decide) (hin 1 (by decide)) ?_
  refine l_arg (v := 2) 5 1 1500 dL_law_1500 dL_law_1501 dL_law_1503 dL_law_1504 dL_law_1505 rfl rfl (by decide) (hin 2 (by decide)) ?_
  refine a_callV (h := (g, δ1)) (rc' := rc) (rs' := rs) (As := [.int (sc D (i + 1)), .int (sc D (i + 2))]) (rest := []) (μ := m_L_law) (pc := 1506) dL_law_1506 cv_L_213 rfl km (by decide) rfl (Nat.le_of_ble_eq_true rfl) (d' := d - 1) (by omega) (by omega) (by omega) (c_X12_gap (N := N) wt hl (d := d - 1) (by omega) km (b, δ2) h2 _ _ ?_)
  show AW _ _ _ _ _ _ _ _ _ (1506 + 3) _ [.int b] (g, δ2)
  refine a_istore ((6, .int b) :: (5, .int kk) :: lv0 D x m o i) (μ := m_L_law) (pc := 1509) dL_law_1509 (by decide) rfl ?_
  refine a_goto 1666 (μ := m_L_law) (pc := 1511) dL_law_1511 (by decide) ?_
  exact a_lv [2, 3, 4, 5, 6] rfl K
set_option maxHeartbeats 4000000 in
theorem lw_30 {l : Launch} {D : va_G} {cy : Nat → ClassId} {N d rc rs : Nat} {P : Option Value → hp → Prop} {X : String → hp → Prop} {g : gp} (wt : WT g) (hl : l.stackTraces = false) (hd : 91 ≤ d) {x m o : Nat} {i : Int32} {δ : dp} (kx : q_K g x = 11) (km : q_K g m = 12) (ko : q_K g o = 14) (ho : q_N g o = 1) (hin : ∀ v : Int32, v ∈ [1, 2, 3, 4, 5] → vp_in (i + v) (D.2 102 1)) {kk b : Int32} {δ1 δ2 : dp} (h1 : D_L_seeds N g x (sc D (i + 1)) (sc D (i + 2)) (sc D (i + 3)) (sc D (i + 4)) (sc D (i + 5)) o δ = some (kk, δ1)) (h2 : D_X12_seeds N g m (sc D (i + 1)) (sc D (i + 2)) (sc D (i + 3)) (sc D (i + 4)) (sc D (i + 5)) δ1 = some (b, δ2)) (K : AW l D cy m_L_law d rc rs P X 1666 (lv0 D x m o i) [] (g, δ2)) : AW l D cy m_L_law d (rc + 3) (rs + 18) P X 1514 (lv0 D x m o i) [] (g, δ) := by
  refine a_wk (rc' := rc + 3) (rs' := rs + 18) (by omega) (by omega) ?_
  refine a_aload_n 3 1 (μ := m_L_law) (pc := 1514) dL_law_1514 rfl rfl ?_
  refine l_arg (v := 1) 4 0 1515 dL_law_1515 dL_law_1516 dL_law_1518 dL_law_1519 dL_law_1520 rfl rfl (by decide) (hin 1 (by decide)) ?_
  refine l_arg (v := 2) 4 0 1521 dL_law_1521 dL_law_1522 dL_law_1524 dL_law_1525 dL_law_1526 rfl rfl (by decide) (hin 2 (by decide)) ?_
  refine l_arg (v := 3) 4 0 1527 dL_law_1527 dL_law_1528 dL_law_1530 dL_law_1531 dL_law_1532 rfl rfl (by decide) (hin 3 (by decide)) ?_
  refine l_arg (v := 4) 4 0 1533 dL_law_1533 dL_law_1534 dL_law_1536 dL_law_1537 dL_law_1538 rfl rfl (by decide) (hin 4 (by decide)) ?_
  refine l_arg (v := 5) 4 0 1539 dL_law_1539 dL_law_1540 dL_law_1542 dL_law_1543 dL_law_1544 rfl rfl (by decide) (hin 5 (by decide)) ?_
  refine a_aload_n 1 3 (μ := m_L_law) (pc := 1545) dL_law_1545 rfl rfl ?_
  refine a_callH (hh := hh_seeds) (h := (g, δ)) (rc' := rc) (rs' := rs) (mc' := 3) (ms' := 18) (As := [.ref x, .int (sc D (i + 1)), .int (sc D (i + 2)), .int (sc D (i + 3)), .int (sc D (i + 4)), .int (sc D (i + 5)), .ref o]) (rest := []) (μ := m_L_law) (pc := 1546) dL_law_1546 ch_214 rfl (Nat.le_of_ble_eq_true rfl) (d' := d - 1) (by omega) (by omega) (by omega) (c_L_seeds (N := N) wt hl (d := d - 1) (by omega) kx ko (kk, δ1) h1 ?_)
  show AW _ _ _ _ _ _ _ _ _ (1546 + 3) _ [.int kk] (g, δ1)
  refine a_istore ((5, .int kk) :: lv0 D x m o i) (μ := m_L_law) (pc := 1549) dL_law_1549 (by decide) rfl ?_
  refine a_aload_n 3 2 (μ := m_L_law) (pc := 1551) dL_law_1551 rfl rfl ?_
  refine l_arg (v := 1) 5 1 1552 dL_law_1552 dL_law_1553 dL_law_1555 dL_law_1556 dL_law_1557 rfl rfl (by decide) (hin 1 (by decide)) ?_
  refine l_arg (v := 2) 5 1 1558 dL_law_1558 dL_law_1559 dL_law_1561 dL_law_1562 dL_law_1563 rfl rfl (by decide) (hin 2 (by decide)) ?_
  refine l_arg (v := 3) 5 1 1564 dL_law_1564 dL_law_1565 dL_law_1567 dL_law_1568 dL_law_1569 rfl rfl (by decide) (hin 3 (by decide)) ?_
  refine l_arg (v := 4) 5 1 1570 dL_law_1570 dL_law_1571 dL_law_1573 dL_law_1574 dL_law_1575 rfl rfl (by decide) (hin 4 (by decide)) ?_
  refine l_arg (v := 5) 5 1 1576 dL_law_1576 dL_law_1577 dL_law_1579 dL_law_1580 dL_law_1581 rfl rfl (by decide) (hin 5 (by decide)) ?_
  refine a_callV (h := (g, δ1)) (rc' := rc) (rs' := rs) (As := [.int (sc D (i + 1)), .int (sc D (i + 2)), .int (sc D (i + 3)), .int (sc D (i + 4)), .int (sc D (i + 5))]) (rest := []) (μ := m_L_law) (pc := 1582) dL_law_1582 cv_L_217 rfl km (by decide) rfl (Nat.le_of_ble_eq_true rfl) (d' := d - 1) (by omega) (by omega) (by omega) (c_X12_seeds (N := N) wt hl (d := d - 1) (by omega) km (b, δ2) h2 _ _ ?_)
  show AW _ _ _ _ _ _ _ _ _ (1582 + 3) _ [.int b] (g, δ2)
  refine a_istore ((6, .int b) :: (5, .int kk) :: lv0 D x m o i) (μ := m_L_law) (pc := 1585) dL_law_1585 (by decide) rfl ?_
  refine a_goto 1666 (μ := m_L_law) (pc := 1587) dL_law_1587 (by decide) ?_
  exact a_lv [2, 3, 4, 5, 6] rfl K
set_option maxHeartbeats 4000000 in
theorem lw_31 {l : Launch} {D : va_G} {cy : Nat → ClassId} {N d rc rs : Nat} {P : Option Value → hp → Prop} {X : String → hp → Prop} {g : gp} (wt : WT g) (hl : l.stackTraces = false) (hd : 91 ≤ d) {x m o : Nat} {i : Int32} {δ : dp} (kx : q_K g x = 11) (km : q_K g m = 12) (ko : q_K g o = 14) (ho : q_N g o = 1) (hin : ∀ v : Int32, v ∈ [1, 2, 3, 4, 5] → vp_in (i + v) (D.2 102 1)) {b b2 : Int32} {δ1 δ2 : dp} (h1 : D_X11_image N g x  δ = some (b, δ1)) (h2 : D_X12_image N g m  δ1 = some (b2, δ2)) (K : AW l D cy m_L_law d rc rs P X 1666 (lv0 D x m o i) [] (g, δ2)) : AW l D cy m_L_law d (rc + 3) (rs + 18) P X 1590 (lv0 D x m o i) [] (g, δ) := by
  refine a_wk (rc' := rc + 3) (rs' := rs + 18) (by omega) (by omega) ?_
  refine a_aload_n 3 1 (μ := m_L_law) (pc := 1590) dL_law_1590 rfl rfl ?_
  refine a_callV (h := (g, δ)) (rc' := rc) (rs' := rs) (As := []) (rest := []) (μ := m_L_law) (pc := 1591) dL_law_1591 cv_L_218 rfl kx (by decide) rfl (Nat.le_of_ble_eq_true rfl) (d' := d - 1) (by omega) (by omega) (by omega) (c_X11_image (N := N) wt hl (d := d - 1) (by omega) kx (b, δ1) h1 _ _ ?_)
  show AW _ _ _ _ _ _ _ _ _ (1591 + 3) _ [.int b] (g, δ1)
  refine a_pop (μ := m_L_law) (pc := 1594) dL_law_1594 rfl ?_
  refine a_aload_n 2 2 (μ := m_L_law) (pc := 1595) dL_law_1595 rfl rfl ?_
  refine a_callV (h := (g, δ1)) (rc' := rc) (rs' := rs) (As := []) (rest := []) (μ := m_L_law) (pc := 1596) dL_law_1596 cv_L_221 rfl km (by decide) rfl (Nat.le_of_ble_eq_true rfl) (d' := d - 1) (by omega) (by omega) (by omega) (c_X12_image (N := N) wt hl (d := d - 1) (by omega) km (b2, δ2) h2 _ _ ?_)
  show AW _ _ _ _ _ _ _ _ _ (1596 + 3) _ [.int b2] (g, δ2)
  refine a_pop (μ := m_L_law) (pc := 1599) dL_law_1599 rfl ?_
  refine a_goto 1666 (μ := m_L_law) (pc := 1600) dL_law_1600 (by decide) ?_
  exact K
set_option maxHeartbeats 4000000 in
theorem lw_32 {l : Launch} {D : va_G} {cy : Nat → ClassId} {N d rc rs : Nat} {P : Option Value → hp → Prop} {X : String → hp → Prop} {g : gp} (wt : WT g) (hl : l.stackTraces = false) (hd : 91 ≤ d) {x m o : Nat} {i : Int32} {δ : dp} (kx : q_K g x = 11) (km : q_K g m = 12) (ko : q_K g o = 14) (ho : q_N g o = 1) (hin : ∀ v : Int32, v ∈ [1, 2, 3, 4, 5] → vp_in (i + v) (D.2 102 1)) {b b2 : Int32} {δ1 δ2 : dp} (h1 : D_X11_restore N g x  δ = some (b, δ1)) (h2 : D_X12_restore N g m  δ1 = some (b2, δ2)) (K : AW l D cy m_L_law d rc rs P X 1666 (lv0 D x m o i) [] (g, δ2)) : AW l D cy m_L_law d (rc + 3) (rs + 18) P X 1603 (lv0 D x m o i) [] (g, δ) := by
  refine a_wk (rc' := rc + 3) (rs' := rs + 18) (by omega) (by omega) ?_
  refine a_aload_n 3 1 (μ := m_L_law) (pc := 1603) dL_law_1603 rfl rfl ?_
  refine a_callV (h := (g, δ)) (rc' := rc) (rs' := rs) (As := []) (rest := []) (μ := m_L_law) (pc := 1604) dL_law_1604 cv_L_222 rfl kx (by decide) rfl (Nat.le_of_ble_eq_true rfl) (d' := d - 1) (by omega) (by omega) (by omega) (c_X11_restore (N := N) wt hl (d := d - 1) (by omega) kx (b, δ1) h1 _ _ ?_)
  show AW _ _ _ _ _ _ _ _ _ (1604 + 3) _ [.int b] (g, δ1)
  refine a_pop (μ := m_L_law) (pc := 1607) dL_law_1607 rfl ?_
  refine a_aload_n 2 2 (μ := m_L_law) (pc := 1608) dL_law_1608 rfl rfl ?_
  refine a_callV (h := (g, δ1)) (rc' := rc) (rs' := rs) (As := []) (rest := []) (μ := m_L_law) (pc := 1609) dL_law_1609 cv_L_225 rfl km (by decide) rfl (Nat.le_of_ble_eq_true rfl) (d' := d - 1) (by omega) (by omega) (by omega) (c_X12_restore (N := N) wt hl (d := d - 1) (by omega) km (b2, δ2) h2 _ _ ?_)
  show AW _ _ _ _ _ _ _ _ _ (1609 + 3) _ [.int b2] (g, δ2)
  refine a_pop (μ := m_L_law) (pc := 1612) dL_law_1612 rfl ?_
  refine a_goto 1666 (μ := m_L_law) (pc := 1613) dL_law_1613 (by decide) ?_
  exact K
set_option maxHeartbeats 4000000 in
theorem lw_33 {l : Launch} {D : va_G} {cy : Nat → ClassId} {N d rc rs : Nat} {P : Option Value → hp → Prop} {X : String → hp → Prop} {g : gp} (wt : WT g) (hl : l.stackTraces = false) (hd : 91 ≤ d) {x m o : Nat} {i : Int32} {δ : dp} (kx : q_K g x = 11) (km : q_K g m = 12) (ko : q_K g o = 14) (ho : q_N g o = 1) (hin : ∀ v : Int32, v ∈ [1, 2, 3, 4, 5] → vp_in (i + v) (D.2 102 1)) {b b2 : Int32} {δ1 δ2 : dp} (h1 : D_X11_status N g x (sc D (i + 1)) δ = some (b, δ1)) (h2 : D_X12_status N g m (sc D (i + 1)) δ1 = some (b2, δ2)) (K : AW l D cy m_L_law d rc rs P X 1666 (lv0 D x m o i) [] (g, δ2)) : AW l D cy m_L_law d (rc + 3) (rs + 18) P X 1616 (lv0 D x m o i) [] (g, δ) := by
  refine a_wk (rc' := rc + 3) (rs' := rs + 18) (by omega) (by omega) ?_
  refine a_aload_n 3 1 (μ := m_L_law) (pc := 1616) dL_law_1616 rfl rfl ?_
  refine l_arg (v := 1) 4 0 1617 dL_law_1617 dL_law_1618 dL_law_1620 dL_law_1621 dL_law_1622 rfl rfl (by decide) (hin 1 (by decide)) ?_
  refine a_callV (h := (g, δ)) (rc' := rc) (rs' := rs) (As := [.int (sc D (i + 1))]) (rest := []) (μ := m_L_law) (pc := 1623) dL_law_1623 cv_L_226 rfl kx (by decide) rfl (Nat.le_of_ble_eq_true rfl) (d' := d - 1) (by omega) (by omega) (by omega) (c_X11_status (N := N) wt hl (d := d - 1) (by omega) kx (b, δ1) h1 _ _ ?_)
  show AW _ _ _ _ _ _ _ _ _ (1623 + 3) _ [.int b] (g, δ1)
  refine a_pop (μ := m_L_law) (pc := 1626) dL_law_1626 rfl ?_
  refine a_aload_n 2 2 (μ := m_L_law) (pc := 1627) dL_law_1627 rfl rfl ?_
  refine l_arg (v := 1) 4 0 1628 dL_law_1628 dL_law_1629 dL_law_1631 dL_law_1632 dL_law_1633 rfl rfl (by decide) (hin 1 (by decide)) ?_
  refine a_callV (h := (g, δ1)) (rc' := rc) (rs' := rs) (As := [.int (sc D (i + 1))]) (rest := []) (μ := m_L_law) (pc := 1634) dL_law_1634 cv_L_229 rfl km (by decide) rfl (Nat.le_of_ble_eq_true rfl) (d' := d - 1) (by omega) (by omega) (by omega) (c_X12_status (N := N) wt hl (d := d - 1) (by omega) km (b2, δ2) h2 _ _ ?_)
  show AW _ _ _ _ _ _ _ _ _ (1634 + 3) _ [.int b2] (g, δ2)
  refine a_pop (μ := m_L_law) (pc := 1637) dL_law_1637 rfl ?_
  refine a_goto 1666 (μ := m_L_law) (pc := 1638) dL_law_1638 (by decide) ?_
  exact K
set_option maxHeartbeats 4000000 in
theorem lw_34 {l : Launch} {D : va_G} {cy : Nat → ClassId} {N d rc rs : Nat} {P : Option Value → hp → Prop} {X : String → hp → Prop} {g : gp} (wt : WT g) (hl : l.stackTraces = false) (hd : 91 ≤ d) {x m o : Nat} {i : Int32} {δ : dp} (kx : q_K g x = 11) (km : q_K g m = 12) (ko : q_K g o = 14) (ho : q_N g o = 1) (hin : ∀ v : Int32, v ∈ [1, 2, 3, 4, 5] → vp_in (i + v) (D.2 102 1)) {b b2 : Int32} {δ1 δ2 : dp} (h1 : D_X11_count N g x (sc D (i + 1)) δ = some (b, δ1)) (h2 : D_X12_count N g m (sc D (i + 1)) δ1 = some (b2, δ2)) (K : AW l D cy m_L_law d rc rs P X 1666 (lv0 D x m o i) [] (g, δ2)) : AW l D cy m_L_law d (rc + 3) (rs + 18) P X 1641 (lv0 D x m o i) [] (g, δ) := by
  refine a_wk (rc' := rc + 3) (rs' := rs + 18) (by omega) (by omega) ?_
  refine a_aload_n 3 1 (μ := m_L_law) (pc := 1641) dL_law_1641 rfl rfl ?_
  refine l_arg (v := 1) 4 0 1642 dL_law_1642 dL_law_1643 dL_law_1645 dL_law_1646 dL_law_1647 rfl rfl (by decide) (hin 1 (by decide)) ?_
  refine a_callV (h := (g, δ)) (rc' := rc) (rs' := rs) (As := [.int (sc D (i + 1))]) (rest := []) (μ := m_L_law) (pc := 1648) dL_law_1648 cv_L_230 rfl kx (by decide) rfl (Nat.le_of_ble_eq_true rfl) (d' := d - 1) (by omega) (by omega) (by omega) (c_X11_count (N := N) wt hl (d := d - 1) (by omega) kx (b, δ1) h1 _ _ ?_)
  show AW _ _ _ _ _ _ _ _ _ (1648 + 3) _ [.int b] (g, δ1)
  refine a_pop (μ := m_L_law) (pc := 1651) dL_law_1651 rfl ?_
  refine a_aload_n 2 2 (μ := m_L_law) (pc := 1652) dL_law_1652 rfl rfl ?_
  refine l_arg (v := 1) 4 0 1653 dL_law_1653 dL_law_1654 dL_law_1656 dL_law_1657 dL_law_1658 rfl rfl (by decide) (hin 1 (by decide)) ?_
  refine a_callV (h := (g, δ1)) (rc' := rc) (rs' := rs) (As := [.int (sc D (i + 1))]) (rest := []) (μ := m_L_law) (pc := 1659) dL_law_1659 cv_L_233 rfl km (by decide) rfl (Nat.le_of_ble_eq_true rfl) (d' := d - 1) (by omega) (by omega) (by omega) (c_X12_count (N := N) wt hl (d := d - 1) (by omega) km (b2, δ2) h2 _ _ ?_)
  show AW _ _ _ _ _ _ _ _ _ (1659 + 3) _ [.int b2] (g, δ2)
  refine a_pop (μ := m_L_law) (pc := 1662) dL_law_1662 rfl ?_
  refine a_goto 1666 (μ := m_L_law) (pc := 1663) dL_law_1663 (by decide) ?_
  exact K
end
section
/-! one round of the law's loop -/
def LwS (N : Nat) (g : gp) (x m o : Nat) (w : Int32) (a : Nat → Int32) (δ δ2 : dp) : Prop :=
  if w = 0 then (∃ (b b2 : Int32) (δ1 : dp), D_X11_feed N g x (a 1) (a 2) (a 3) (a 4) (a 5) δ = some (b, δ1) ∧ D_X12_feed N g m (a 1) (a 2) (a 3) (a 4) (a 5) δ1 = some (b2, δ2))
  else if w = 1 then (∃ (kk b : Int32) (δ1 : dp), D_L_shape N g x (a 1) o δ = some (kk, δ1) ∧ D_X12_shape N g m (a 1) δ1 = some (b, δ2))
  else if w = 2 then (∃ (kk b : Int32) (δ1 : dp), D_L_thief N g x (a 1) o δ = some (kk, δ1) ∧ D_X12_thief N g m (a 1) δ1 = some (b, δ2))
  else if w = 3 then (∃ (b b2 : Int32) (δ1 : dp), D_X11_fault N g x  δ = some (b, δ1) ∧ D_X12_fault N g m  δ1 = some (b2, δ2))
  else if w = 4 then (∃ (kk b : Int32) (δ1 : dp), D_L_told N g x (a 1) o δ = some (kk, δ1) ∧ D_X12_told N g m (a 1) δ1 = some (b, δ2))
  else if w = 5 then (∃ (kk b : Int32) (δ1 : dp), D_L_put N g x (a 1) (a 2) o δ = some (kk, δ1) ∧ D_X12_put N g m (a 1) (a 2) δ1 = some (b, δ2))
  else if w = 6 then (∃ (kk b : Int32) (δ1 : dp), D_L_drop N g x (a 1) (a 2) o δ = some (kk, δ1) ∧ D_X12_drop N g m (a 1) (a 2) δ1 = some (b, δ2))
  else if w = 7 then (∃ (kk b : Int32) (δ1 : dp), D_L_has N g x (a 1) (a 2) o δ = some (kk, δ1) ∧ D_X12_has N g m (a 1) (a 2) δ1 = some (b, δ2))
  else if w = 8 then (∃ (kk b : Int32) (δ1 : dp), D_L_of N g x (a 1) (a 2) o δ = some (kk, δ1) ∧ D_X12_of_ N g m (a 1) (a 2) δ1 = some (b, δ2))
  else if w = 9 then (∃ (kk b : Int32) (δ1 : dp), D_L_next N g x (a 1) (a 2) o δ = some (kk, δ1) ∧ D_X12_next N g m (a 1) (a 2) δ1 = some (b, δ2))
  else if w = 10 then (∃ (kk b : Int32) (δ1 : dp), D_L_before N g x (a 1) (a 2) o δ = some (kk, δ1) ∧ D_X12_before N g m (a 1) (a 2) δ1 = some (b, δ2))
  else if w = 11 then (∃ (kk b : Int32) (δ1 : dp), D_L_kth N g x (a 1) (a 2) o δ = some (kk, δ1) ∧ D_X12_kth N g m (a 1) (a 2) δ1 = some (b, δ2))
  else if w = 12 then (∃ (kk b : Int32) (δ1 : dp), D_L_between N g x (a 1) (a 2) (a 3) o δ = some (kk, δ1) ∧ D_X12_between N g m (a 1) (a 2) (a 3) δ1 = some (b, δ2))
  else if w = 13 then (∃ (kk b : Int32) (δ1 : dp), D_L_touches N g x (a 1) (a 2) (a 3) (a 4) o δ = some (kk, δ1) ∧ D_X12_touches N g m (a 1) (a 2) (a 3) (a 4) δ1 = some (b, δ2))
  else if w = 14 then (∃ (kk b : Int32) (δ1 : dp), D_L_size N g x (a 1) (a 2) o δ = some (kk, δ1) ∧ D_X12_size N g m (a 1) (a 2) δ1 = some (b, δ2))
  else if w = 15 then (∃ (kk b : Int32) (δ1 : dp), D_L_bound N g x (a 1) o δ = some (kk, δ1) ∧ D_X12_bound N g m (a 1) δ1 = some (b, δ2))
  else if w = 16 then (∃ (kk b : Int32) (δ1 : dp), D_L_worst N g x (a 1) (a 2) (a 3) o δ = some (kk, δ1) ∧ D_X12_worst N g m (a 1) (a 2) (a 3) δ1 = some (b, δ2))
  else if w = 17 then (∃ (kk b : Int32) (δ1 : dp), D_L_bad N g x (a 1) (a 2) (a 3) o δ = some (kk, δ1) ∧ D_X12_bad N g m (a 1) (a 2) (a 3) δ1 = some (b, δ2))
  else if w = 18 then (∃ (kk b : Int32) (δ1 : dp), D_L_was N g x (a 1) (a 2) (a 3) o δ = some (kk, δ1) ∧ D_X12_was N g m (a 1) (a 2) (a 3) δ1 = some (b, δ2) ∧ q_I δ2 12 0 m = kk ∧ (kk = 0 → q_J δ2 o 0 = b.toInt64))
  else if w = 19 then (∃ (kk b : Int32) (δ1 : dp), D_L_asked N g x (a 1) (a 2) (a 3) (a 4) o δ = some (kk, δ1) ∧ D_X12_asked N g m (a 1) (a 2) (a 3) (a 4) δ1 = some (b, δ2))
  else if w = 20 then (∃ (kk b : Int32) (δ1 : dp), D_L_since N g x (a 1) (a 2) (a 3) o δ = some (kk, δ1) ∧ D_X12_since N g m (a 1) (a 2) (a 3) δ1 = some (b, δ2))
  else if w = 21 then (∃ (kk b : Int32) (δ1 : dp), D_L_room N g x (a 1) (a 2) o δ = some (kk, δ1) ∧ D_X12_room N g m (a 1) (a 2) δ1 = some (b, δ2))
  else if w = 22 then (∃ (kk b : Int32) (δ1 : dp), D_L_joins N g x (a 1) (a 2) (a 3) o δ = some (kk, δ1) ∧ D_X12_joins N g m (a 1) (a 2) (a 3) δ1 = some (b, δ2))
  else if w = 23 then (∃ (kk b : Int32) (δ1 : dp), D_L_runs N g x (a 1) (a 2) o δ = some (kk, δ1) ∧ D_X12_runs N g m (a 1) (a 2) δ1 = some (b, δ2))
  else if w = 24 then (∃ (kk b : Int32) (δ1 : dp), D_L_steals N g x (a 1) (a 2) (a 3) (a 4) o δ = some (kk, δ1) ∧ D_X12_steals N g m (a 1) (a 2) (a 3) (a 4) δ1 = some (b, δ2))
  else if w = 25 then (∃ (kk b : Int32) (δ1 : dp), D_L_reached N g x (a 1) o δ = some (kk, δ1) ∧ D_X12_reached N g m (a 1) δ1 = some (b, δ2))
  else if w = 26 then (∃ (kk b : Int32) (δ1 : dp), D_L_row N g x (a 1) o δ = some (kk, δ1) ∧ D_X12_row N g m (a 1) δ1 = some (b, δ2))
  else if w = 27 then (∃ (kk b : Int32) (δ1 : dp), D_L_rowCall N g x (a 1) (a 2) o δ = some (kk, δ1) ∧ D_X12_rowCall N g m (a 1) (a 2) δ1 = some (b, δ2))
  else if w = 28 then (∃ (kk b : Int32) (δ1 : dp), D_L_split N g x (a 1) (a 2) (a 3) o δ = some (kk, δ1) ∧ D_X12_split N g m (a 1) (a 2) (a 3) δ1 = some (b, δ2))
  else if w = 29 then (∃ (kk b : Int32) (δ1 : dp), D_L_gap N g x (a 1) (a 2) o δ = some (kk, δ1) ∧ D_X12_gap N g m (a 1) (a 2) δ1 = some (b, δ2))
  else if w = 30 then (∃ (kk b : Int32) (δ1 : dp), D_L_seeds N g x (a 1) (a 2) (a 3) (a 4) (a 5) o δ = some (kk, δ1) ∧ D_X12_seeds N g m (a 1) (a 2) (a 3) (a 4) (a 5) δ1 = some (b, δ2))
  else if w = 31 then (∃ (b b2 : Int32) (δ1 : dp), D_X11_image N g x  δ = some (b, δ1) ∧ D_X12_image N g m  δ1 = some (b2, δ2))
  else if w = 32 then (∃ (b b2 : Int32) (δ1 : dp), D_X11_restore N g x  δ = some (b, δ1) ∧ D_X12_restore N g m  δ1 = some (b2, δ2))
  else if w = 33 then (∃ (b b2 : Int32) (δ1 : dp), D_X11_status N g x (a 1) δ = some (b, δ1) ∧ D_X12_status N g m (a 1) δ1 = some (b2, δ2))
  else if w = 34 then (∃ (b b2 : Int32) (δ1 : dp), D_X11_count N g x (a 1) δ = some (b, δ1) ∧ D_X12_count N g m (a 1) δ1 = some (b2, δ2))
  else δ2 = δ
theorem w_big {w : Int32} (h : ∀ n : Nat, n < 35 → w ≠ Int32.ofNat n) : w.toInt < 0 ∨ 34 < w.toInt := by
  by_cases h0 : w.toInt < 0
  · exact Or.inl h0
  · refine Or.inr (Int.not_le.mp fun h1 => ?_)
    have h2 : w.toInt.toNat < 35 := by omega
    refine h _ h2 ?_
    have h4 : w.toInt = ((w.toInt.toNat : Nat) : Int) := by omega
    exact (Int32.ofInt_toInt w).symm.trans ((congrArg Int32.ofInt h4).trans Int32.ofInt_eq_ofNat)
set_option maxHeartbeats 4000000 in
set_option maxRecDepth 100000 in
theorem law_step {l : Launch} {D : va_G} {cy : Nat → ClassId} {N d rc rs : Nat} {P : Option Value → hp → Prop} {X : String → hp → Prop} {g : gp} (wt : WT g) (hl : l.stackTraces = false) (hd : 91 ≤ d) {x m o : Nat} {i : Int32} {δ δ2 : dp} (kx : q_K g x = 11) (km : q_K g m = 12) (ko : q_K g o = 14) (ho : q_N g o = 1) (hi0 : vp_in i (D.2 102 1)) (hin : ∀ v : Int32, v ∈ [1, 2, 3, 4, 5] → vp_in (i + v) (D.2 102 1)) (hs : LwS N g x m o (sc D i &&& 63) (fun k => sc D (i + Int32.ofNat k)) δ δ2) (K : AW l D cy m_L_law d rc rs P X 1666 (lv0 D x m o i) [] (g, δ2)) : AW l D cy m_L_law d (rc + 3) (rs + 18) P X 33 (lv0 D x m o i) [] (g, δ) := by
  refine a_aload_n 4 0 (μ := m_L_law) (pc := 33) dL_law_33 rfl rfl ?_
  refine a_iload 0 (μ := m_L_law) (pc := 34) dL_law_34 rfl ?_
  refine a_sld (μ := m_L_law) (pc := 36) dL_law_36 hi0 ?_
  refine a_bipush (v := 63) (μ := m_L_law) (pc := 37) dL_law_37 (by decide) ?_
  refine a_iand (μ := m_L_law) (pc := 39) dL_law_39 ?_
  change AW _ _ _ _ _ _ _ _ _ 40 _ [.int (sc D i &&& 63)] _
  generalize hw : sc D i &&& 63 = w at hs ⊢
  unfold LwS at hs
  by_cases w0 : w = 0
  · rw [if_pos w0] at hs; subst w0; obtain ⟨b, b2, δ1, h1, h2⟩ := hs; exact a_tabIn (off := 156) 196 (μ := m_L_law) (pc := 40) dL_law_40 (by decide) (by decide) (by decide) (by decide) (lw_0 (N := N) wt hl hd kx km ko ho hin h1 h2 K)
  rw [if_neg w0] at hs
  by_cases w1 : w = 1
  · rw [if_pos w1] at hs; subst w1; obtain ⟨kk, b, δ1, h1, h2⟩ := hs; exact a_tabIn (off := 229) 269 (μ := m_L_law) (pc := 40) dL_law_40 (by decide) (by decide) (by decide) (by decide) (lw_1 (N := N) wt hl hd kx km ko ho hin h1 h2 K)
  rw [if_neg w1] at hs
  by_cases w2 : w = 2
  · rw [if_pos w2] at hs; subst w2; obtain ⟨kk, b, δ1, h1, h2⟩ := hs; exact a_tabIn (off := 257) 297 (μ := m_L_law) (pc := 40) dL_law_40 (by decide) (by decide) (by decide) (by decide) (lw_2 (N := N) wt hl hd kx km ko ho hin h1 h2 K)
  rw [if_neg w2] at hs
  by_cases w3 : w = 3
  · rw [if_pos w3] at hs; subst w3; obtain ⟨b, b2, δ1, h1, h2⟩ := hs; exact a_tabIn (off := 285) 325 (μ := m_L_law) (pc := 40) dL_law_40 (by decide) (by decide) (by decide) (by decide) (lw_3 (N := N) wt hl hd kx km ko ho hin h1 h2 K)
  rw [if_neg w3] at hs
  by_cases w4 : w = 4
  · rw [if_pos w4] at hs; subst w4; obtain ⟨kk, b, δ1, h1, h2⟩ := hs; exact a_tabIn (off := 298) 338 (μ := m_L_law) (pc := 40) dL_law_40 (by decide) (by decide) (by decide) (by decide) (lw_4 (N := N) wt hl hd kx km ko ho hin h1 h2 K)
  rw [if_neg w4] at hs
  by_cases w5 : w = 5
  · rw [if_pos w5] at hs; subst w5; obtain ⟨kk, b, δ1, h1, h2⟩ := hs; exact a_tabIn (off := 326) 366 (μ := m_L_law) (pc := 40) dL_law_40 (by decide) (by decide) (by decide) (by decide) (lw_5 (N := N) wt hl hd kx km ko ho hin h1 h2 K)
  rw [if_neg w5] at hs
  by_cases w6 : w = 6
  · rw [if_pos w6] at hs; subst w6; obtain ⟨kk, b, δ1, h1, h2⟩ := hs; exact a_tabIn (off := 366) 406 (μ := m_L_law) (pc := 40) dL_law_40 (by decide) (by decide) (by decide) (by decide) (lw_6 (N := N) wt hl hd kx km ko ho hin h1 h2 K)
  rw [if_neg w6] at hs
  by_cases w7 : w = 7
  · rw [if_pos w7] at hs; subst w7; obtain ⟨kk, b, δ1, h1, h2⟩ := hs; exact a_tabIn (off := 406) 446 (μ := m_L_law) (pc := 40) dL_law_40 (by decide) (by decide) (by decide) (by decide) (lw_7 (N := N) wt hl hd kx km ko ho hin h1 h2 K)
  rw [if_neg w7] at hs
  by_cases w8 : w = 8
  · rw [if_pos w8] at hs; subst w8; obtain ⟨kk, b, δ1, h1, h2⟩ := hs; exact a_tabIn (off := 446) 486 (μ := m_L_law) (pc := 40) dL_law_40 (by decide) (by decide) (by decide) (by decide) (lw_8 (N := N) wt hl hd kx km ko ho hin h1 h2 K)
  rw [if_neg w8] at hs
  by_cases w9 : w = 9
  · rw [if_pos w9] at hs; subst w9; obtain ⟨kk, b, δ1, h1, h2⟩ := hs; exact a_tabIn (off := 486) 526 (μ := m_L_law) (pc := 40) dL_law_40 (by decide) (by decide) (by decide) (by decide) (lw_9 (N := N) wt hl hd kx km ko ho hin h1 h2 K)
  rw [if_neg w9] at hs
  by_cases w10 : w = 10
  · rw [if_pos w10] at hs; subst w10; obtain ⟨kk, b, δ1, h1, h2⟩ := hs; exact a_tabIn (off := 526) 566 (μ := m_L_law) (pc := 40) dL_law_40 (by decide) (by decide) (by decide) (by decide) (lw_10 (N := N) wt hl hd kx km ko ho hin h1 h2 K)
  rw [if_neg w10] at hs
  by_cases w11 : w = 11
  · rw [if_pos w11] at hs; subst w11; obtain ⟨kk, b, δ1, h1, h2⟩ := hs; exact a_tabIn (off := 566) 606 (μ := m_L_law) (pc := 40) dL_law_40 (by decide) (by decide) (by decide) (by decide) (lw_11 (N := N) wt hl hd kx km ko ho hin h1 h2 K)
  rw [if_neg w11] at hs
  by_cases w12 : w = 12
  · rw [if_pos w12] at hs; subst w12; obtain ⟨kk, b, δ1, h1, h2⟩ := hs; exact a_tabIn (off := 606) 646 (μ := m_L_law) (pc := 40) dL_law_40 (by decide) (by decide) (by decide) (by decide) (lw_12 (N := N) wt hl hd kx km ko ho hin h1 h2 K)
  rw [if_neg w12] at hs
  by_cases w13 : w = 13
  · rw [if_pos w13] at hs; subst w13; obtain ⟨kk, b, δ1, h1, h2⟩ := hs; exact a_tabIn (off := 658) 698 (μ := m_L_law) (pc := 40) dL_law_40 (by decide) (by decide) (by decide) (by decide) (lw_13 (N := N) wt hl hd kx km ko ho hin h1 h2 K)
  rw [if_neg w13] at hs
  by_cases w14 : w = 14
  · rw [if_pos w14] at hs; subst w14; obtain ⟨kk, b, δ1, h1, h2⟩ := hs; exact a_tabIn (off := 722) 762 (μ := m_L_law) (pc := 40) dL_law_40 (by decide) (by decide) (by decide) (by decide) (lw_14 (N := N) wt hl hd kx km ko ho hin h1 h2 K)
  rw [if_neg w14] at hs
  by_cases w15 : w = 15
  · rw [if_pos w15] at hs; subst w15; obtain ⟨kk, b, δ1, h1, h2⟩ := hs; exact a_tabIn (off := 762) 802 (μ := m_L_law) (pc := 40) dL_law_40 (by decide) (by decide) (by decide) (by decide) (lw_15 (N := N) wt hl hd kx km ko ho hin h1 h2 K)
  rw [if_neg w15] at hs
  by_cases w16 : w = 16
  · rw [if_pos w16] at hs; subst w16; obtain ⟨kk, b, δ1, h1, h2⟩ := hs; exact a_tabIn (off := 790) 830 (μ := m_L_law) (pc := 40) dL_law_40 (by decide) (by decide) (by decide) (by decide) (lw_16 (N := N) wt hl hd kx km ko ho hin h1 h2 K)
  rw [if_neg w16] at hs
  by_cases w17 : w = 17
  · rw [if_pos w17] at hs; subst w17; obtain ⟨kk, b, δ1, h1, h2⟩ := hs; exact a_tabIn (off := 842) 882 (μ := m_L_law) (pc := 40) dL_law_40 (by decide) (by decide) (by decide) (by decide) (lw_17 (N := N) wt hl hd kx km ko ho hin h1 h2 K)
  rw [if_neg w17] at hs
  by_cases w18 : w = 18
  · rw [if_pos w18] at hs; subst w18; obtain ⟨kk, b, δ1, h1, h2, h3, h4⟩ := hs; exact a_tabIn (off := 894) 934 (μ := m_L_law) (pc := 40) dL_law_40 (by decide) (by decide) (by decide) (by decide) (lw_18 (N := N) wt hl hd kx km ko ho hin h1 h2 h3 h4 K)
  rw [if_neg w18] at hs
  by_cases w19 : w = 19
  · rw [if_pos w19] at hs; subst w19; obtain ⟨kk, b, δ1, h1, h2⟩ := hs; exact a_tabIn (off := 974) 1014 (μ := m_L_law) (pc := 40) dL_law_40 (by decide) (by decide) (by decide) (by decide) (lw_19 (N := N) wt hl hd kx km ko ho hin h1 h2 K)
  rw [if_neg w19] at hs
  by_cases w20 : w = 20
  · rw [if_pos w20] at hs; subst w20; obtain ⟨kk, b, δ1, h1, h2⟩ := hs; exact a_tabIn (off := 1038) 1078 (μ := m_L_law) (pc := 40) dL_law_40 (by decide) (by decide) (by decide) (by decide) (lw_20 (N := N) wt hl hd kx km ko ho hin h1 h2 K)
  rw [if_neg w20] at hs
  by_cases w21 : w = 21
  · rw [if_pos w21] at hs; subst w21; obtain ⟨kk, b, δ1, h1, h2⟩ := hs; exact a_tabIn (off := 1090) 1130 (μ := m_L_law) (pc := 40) dL_law_40 (by decide) (by decide) (by decide) (by decide) (lw_21 (N := N) wt hl hd kx km ko ho hin h1 h2 K)
  rw [if_neg w21] at hs
  by_cases w22 : w = 22
  · rw [if_pos w22] at hs; subst w22; obtain ⟨kk, b, δ1, h1, h2⟩ := hs; exact a_tabIn (off := 1130) 1170 (μ := m_L_law) (pc := 40) dL_law_40 (by decide) (by decide) (by decide) (by decide) (lw_22 (N := N) wt hl hd kx km ko ho hin h1 h2 K)
  rw [if_neg w22] at hs
  by_cases w23 : w = 23
  · rw [if_pos w23] at hs; subst w23; obtain ⟨kk, b, δ1, h1, h2⟩ := hs; exact a_tabIn (off := 1182) 1222 (μ := m_L_law) (pc := 40) dL_law_40 (by decide) (by decide) (by decide) (by decide) (lw_23 (N := N) wt hl hd kx km ko ho hin h1 h2 K)
  rw [if_neg w23] at hs
  by_cases w24 : w = 24
  · rw [if_pos w24] at hs; subst w24; obtain ⟨kk, b, δ1, h1, h2⟩ := hs; exact a_tabIn (off := 1222) 1262 (μ := m_L_law) (pc := 40) dL_law_40 (by decide) (by decide) (by decide) (by decide) (lw_24 (N := N) wt hl hd kx km ko ho hin h1 h2 K)
  rw [if_neg w24] at hs
  by_cases w25 : w = 25
  · rw [if_pos w25] at hs; subst w25; obtain ⟨kk, b, δ1, h1, h2⟩ := hs; exact a_tabIn (off := 1286) 1326 (μ := m_L_law) (pc := 40) dL_law_40 (by decide) (by decide) (by decide) (by decide) (lw_25 (N := N) wt hl hd kx km ko ho hin h1 h2 K)
  rw [if_neg w25] at hs
  by_cases w26 : w = 26
  · rw [if_pos w26] at hs; subst w26; obtain ⟨kk, b, δ1, h1, h2⟩ := hs; exact a_tabIn (off := 1314) 1354 (μ := m_L_law) (pc := 40) dL_law_40 (by decide) (by decide) (by decide) (by decide) (lw_26 (N := N) wt hl hd kx km ko ho hin h1 h2 K)
  rw [if_neg w26] at hs
  by_cases w27 : w = 27
  · rw [if_pos w27] at hs; subst w27; obtain ⟨kk, b, δ1, h1, h2⟩ := hs; exact a_tabIn (off := 1342) 1382 (μ := m_L_law) (pc := 40) dL_law_40 (by decide) (by decide) (by decide) (by decide) (lw_27 (N := N) wt hl hd kx km ko ho hin h1 h2 K)
  rw [if_neg w27] at hs
  by_cases w28 : w = 28
  · rw [if_pos w28] at hs; subst w28; obtain ⟨kk, b, δ1, h1, h2⟩ := hs; exact a_tabIn (off := 1382) 1422 (μ := m_L_law) (pc := 40) dL_law_40 (by decide) (by decide) (by decide) (by decide) (lw_28 (N := N) wt hl hd kx km ko ho hin h1 h2 K)
  rw [if_neg w28] at hs
  by_cases w29 : w = 29
  · rw [if_pos w29] at hs; subst w29; obtain ⟨kk, b, δ1, h1, h2⟩ := hs; exact a_tabIn (off := 1434) 1474 (μ := m_L_law) (pc := 40) dL_law_40 (by decide) (by decide) (by decide) (by decide) (lw_29 (N := N) wt hl hd kx km ko ho hin h1 h2 K)
  rw [if_neg w29] at hs
  by_cases w30 : w = 30
  · rw [if_pos w30] at hs; subst w30; obtain ⟨kk, b, δ1, h1, h2⟩ := hs; exact a_tabIn (off := 1474) 1514 (μ := m_L_law) (pc := 40) dL_law_40 (by decide) (by decide) (by decide) (by decide) (lw_30 (N := N) wt hl hd kx km ko ho hin h1 h2 K)
  rw [if_neg w30] at hs
  by_cases w31 : w = 31
  · rw [if_pos w31] at hs; subst w31; obtain ⟨b, b2, δ1, h1, h2⟩ := hs; exact a_tabIn (off := 1550) 1590 (μ := m_L_law) (pc := 40) dL_law_40 (by decide) (by decide) (by decide) (by decide) (lw_31 (N := N) wt hl hd kx km ko ho hin h1 h2 K)
  rw [if_neg w31] at hs
  by_cases w32 : w = 32
  · rw [if_pos w32] at hs; subst w32; obtain ⟨b, b2, δ1, h1, h2⟩ := hs; exact a_tabIn (off := 1563) 1603 (μ := m_L_law) (pc := 40) dL_law_40 (by decide) (by decide) (by decide) (by decide) (lw_32 (N := N) wt hl hd kx km ko ho hin h1 h2 K)
  rw [if_neg w32] at hs
  by_cases w33 : w = 33
  · rw [if_pos w33] at hs; subst w33; obtain ⟨b, b2, δ1, h1, h2⟩ := hs; exact a_tabIn (off := 1576) 1616 (μ := m_L_law) (pc := 40) dL_law_40 (by decide) (by decide) (by decide) (by decide) (lw_33 (N := N) wt hl hd kx km ko ho hin h1 h2 K)
  rw [if_neg w33] at hs
  by_cases w34 : w = 34
  · rw [if_pos w34] at hs; subst w34; obtain ⟨b, b2, δ1, h1, h2⟩ := hs; exact a_tabIn (off := 1601) 1641 (μ := m_L_law) (pc := 40) dL_law_40 (by decide) (by decide) (by decide) (by decide) (lw_34 (N := N) wt hl hd kx km ko ho hin h1 h2 K)
  rw [if_neg w34] at hs
  subst hs
  refine a_tabOut 1666 (μ := m_L_law) (pc := 40) dL_law_40 (w_big fun n hn e => ?_) (by decide) (a_wk (by omega) (by omega) K)
  revert e
  have hall : ∀ n : Nat, n < 35 → Int32.ofNat n ∈ ([0, 1, 2, 3, 4, 5, 6, 7, 8, 9, 10, 11, 12, 13, 14, 15, 16, 17, 18, 19, 20, 21, 22, 23, 24, 25, 26, 27, 28, 29, 30, 31, 32, 33, 34] : List Int32) := by decide
  intro e
  have hm := hall n hn
  rw [← e] at hm
  simp only [List.mem_cons, List.not_mem_nil, or_false] at hm
  rcases hm with h | h | h | h | h | h | h | h | h | h | h | h | h | h | h | h | h | h | h | h | h | h | h | h | h | h | h | h | h | h | h | h | h | h | h <;> contradiction
end
