/-! The law's cases, one call each. -/

section Seven
variable {G : Gx} {R : Room} {cc : ByteArray} {own : String} {Y : Yx} {C : Cx} {Q : State → Prop} {pc : Nat} {L : List (Option Value)} {st : List Value} {w : Wd} {c k : Nat}
theorem g_callSW7 {y : MethodName} {bytes : ByteArray} {maxL idx : Nat} {ret : Option FieldType} {hh : List (Nat × Nat × Nat × Nat)} {rm : Room} {a1 a2 a3 a4 a5 a6 a7 : Value} {P : RV → Wd → Prop} (ct : Ct G y (.codeWith y bytes maxL ret hh) rm [a1, a2, a3, a4, a5, a6, a7] w P) (md : MD y (.codeWith y bytes maxL ret hh) 7) (d : decode cc pc = .ok (.invokestatic idx, 3)) (h1 : Cond.methodLink own idx y ∈ tw) (h2 : Cond.static y ∈ tw) (hr : RmOk R rm maxL st c k)
    (kr : ∀ v w', P (.inl v) w' → Go G R cc own Y C Q (pc + 3) L (v.toList ++ st) w' (c + rm.cells) (k + rm.slots))
    (kx : ∀ E w', P (.inr E) w' → GoX G R cc own Y C Q pc L w' (c + rm.cells) (k + rm.slots) E) : Go G R cc own Y C Q pc L (a7 :: a6 :: a5 :: a4 :: a3 :: a2 :: a1 :: st) w c k := by
  obtain ⟨p, e, s, m, args, below, meth, cd⟩ := C
  intro O H ls locs hR hS hL
  have hw := fun {x : Cond} (hx : x ∈ tw) => O.2.2.2.1.w (a := args) hx
  exact run_go O hS hL (vx_runSX (Ts := []) (maxL := maxL) (ret := ret) (hh := hh) (As := [a1, a2, a3, a4, a5, a6, a7]) (n := 7) ⟨O.1, O.2.1, hL.1.symm, O.2.2.1, fun _ z => nomatch z⟩ ct ⟨⟨rfl, rfl, hr.1.1, hr.1.2.1, ws_at O md.1, List.mem_cons_self⟩, hw md.1, hw md.2.1, md.2.2.1, len_of md.2.2.2, hw h1, hw h2⟩ ⟨Pc0.blind, fun U hU hW => pc0_at O hR hS hU hW⟩ rfl rfl rfl rfl (mr_of hr.1.2.2) d hr.2) kr kx
/-- the script's cell is older than all that is made: it stays -/
theorem g_sald {b n : Nat} {xs : Nat → Int32} {i : Int32} (d : decode cc pc = .ok (.iaload, 1)) (hX : va_X b n xs C.2.2.1 C.2.2.1.heap) (hb : b < (gH G).size) (hi : vp_in i n) (h : Go G R cc own Y C Q (pc + 1) L (.int (xs i.toNatClampNeg) :: st) w c k) : Go G R cc own Y C Q pc L (.int i :: .ref b :: st) w c k := by
  obtain ⟨p, e, s, m, args, below, meth, cd⟩ := C
  intro O H ls locs hR hS hL
  exact va_sld O.1 O.2.1 hX (Nat.lt_of_lt_of_le hb O.2.2.2.2.1.1) (Nat.not_le.mpr hb) hS hi d (h O H ls locs hR hS hL)
theorem g_slen {b n : Nat} {xs : Nat → Int32} (d : decode cc pc = .ok (.arraylength, 1)) (hX : va_X b n xs C.2.2.1 C.2.2.1.heap) (hb : b < (gH G).size) (h : Go G R cc own Y C Q (pc + 1) L (.int (nI n) :: st) w c k) : Go G R cc own Y C Q pc L (.ref b :: st) w c k := by
  obtain ⟨p, e, s, m, args, below, meth, cd⟩ := C
  intro O H ls locs hR hS hL
  exact va_slen O.1 O.2.1 hX (Nat.lt_of_lt_of_le hb O.2.2.2.2.1.1) (Nat.not_le.mpr hb) hS d (h O H ls locs hR hS hL)
theorem g_tblIn {dflt lo hi : Int} {offs : Array Int} {len : Nat} {x : Int32} {off : Int} {tgt : Nat} (d : decode cc pc = .ok (.tableswitch dflt lo hi offs, len)) (h1 : ¬ x.toInt < lo) (h2 : ¬ hi < x.toInt) (ho : offs[(x.toInt - lo).toNat]? = some off) (ht : (pc : Int) + off = (tgt : Int)) (h : Go G R cc own Y C Q tgt L st w c k) : Go G R cc own Y C Q pc L (.int x :: st) w c k := by
  obtain ⟨p, e, s, m, args, below, meth, cd⟩ := C
  intro O H ls locs hR hS hL
  exact lv_tableIn O.1 O.2.1 d h1 h2 ho ht (h O H ls locs hR hS hL)
theorem g_tblOut {dflt lo hi : Int} {offs : Array Int} {len : Nat} {x : Int32} {tgt : Nat} (d : decode cc pc = .ok (.tableswitch dflt lo hi offs, len)) (h1 : x.toInt < lo ∨ hi < x.toInt) (ht : (pc : Int) + dflt = (tgt : Int)) (h : Go G R cc own Y C Q tgt L st w c k) : Go G R cc own Y C Q pc L (.int x :: st) w c k := by
  obtain ⟨p, e, s, m, args, below, meth, cd⟩ := C
  intro O H ls locs hR hS hL
  exact lv_tableOut O.1 O.2.1 d h1 ht (h O H ls locs hR hS hL)
end Seven
theorem lcmp_self (x : Int64) : lg_cmp x x = 0 := by unfold lg_cmp; simp
theorem nI_z {n : Nat} (h : n ≤ 3) (h0 : nI n = 0) : n = 0 := (nI_eq (b := 0) (by omega) (by decide)).mp h0
section LawCases
variable {G : Gx} {Y : Yx} {C : Cx} {Q : State → Prop} {X : Nat → Prop} {w : Wd} {kp ou sc Ln i c k : Nat} {xs : Nat → Int32} {am : Nat → Nat} {N : Nat → Nat} {A : Nat → Nat → Int32} {th0 : Int32} {y5 y6 : Option Value}
set_option maxRecDepth 100000 in
theorem la_pass (hF : Fx G X am ou) (hJ : Jn G X kp am ou th0 N A w) (hs : va_X sc Ln xs C.2.2.1 C.2.2.1.heap) (hsb : sc < (gH G).size) (hLn : Ln < 2 ^ 31) (hi : i + 5 < Ln) (hc9 : c + 800 ≤ 601024) (hk9 : k + 8000 ≤ 7293034)
    (hk : ∀ w2 th N' A' c2 k2 x5 x6, Jn G X kp am ou th N' A' w2 → c2 ≤ c + 800 → k2 ≤ k + 8000 → Go G room_1 cL_law RL Y C Q 1432 [some (.ref sc), some (.ref kp), some (.ref (am 0)), some (.ref ou), some (.int (nI i)), x5, x6] [] w2 c2 k2) :
    Go G room_1 cL_law RL Y C Q 140 [some (.ref sc), some (.ref kp), some (.ref (am 0)), some (.ref ou), some (.int (nI i)), y5, y6] [] w c k := by
  obtain ⟨th, v, N', A', h3, hc, hbo⟩ := bo_pass hF hJ (xs (i + 1))
  refine g_aload1 dL_law_140 ?_
  refine g_aload0 dL_law_141 ?_
  refine g_iload4 dL_law_142 ?_
  refine g_iconst (v := 1) dL_law_144 (by decide) ?_
  refine g_iadd dL_law_145 ?_
  rw [show nI i + 1 = nI (i + 1) from nI_add i 1]
  refine g_sald dL_law_146 hs hsb (vp_in_nI (show i + 1 < Ln by omega) hLn) ?_
  rw [nI_clamp (by omega)]
  refine g_aload3 dL_law_147 ?_
  refine g_callSW3 hc md_L_pass dL_law_148 ml_L_87 st_L_pass (RmOk.of (Nat.le_of_ble_eq_true rfl) (Nat.le_of_ble_eq_true rfl) (Nat.le_of_ble_eq_true rfl) (by (try dsimp only [room_1, rm_L_pass]); omega) (by (try dsimp only [room_1, rm_L_pass]); omega)) (kr_B (fun w1 hw1 => ?_)) kx_B
  have hm := hbo w1 hw1
  have hmz := hw1.mz hJ.2.1 hF.2.2.2.1 hF.2.2.2.2.1
  refine g_istore5 dL_law_151 ?_
  refine g_aload2 dL_law_153 ?_
  refine g_aload0 dL_law_154 ?_
  refine g_iload4 dL_law_155 ?_
  refine g_iconst (v := 1) dL_law_157 (by decide) ?_
  refine g_iadd dL_law_158 ?_
  rw [show nI i + 1 = nI (i + 1) from nI_add i 1]
  refine g_sald dL_law_159 hs hsb (vp_in_nI (show i + 1 < Ln by omega) hLn) ?_
  rw [nI_clamp (by omega)]
  refine g_callV1 kc7 hm md_X6_pass dL_law_160 ml_L_92 im_X6_pass se_X6_pass hmz.1 (RmOk.of (Nat.le_of_ble_eq_true rfl) (Nat.le_of_ble_eq_true rfl) (Nat.le_of_ble_eq_true rfl) (by (try dsimp only [room_1, rm_L_pass, rm_X6_pass]); omega) (by (try dsimp only [room_1, rm_L_pass, rm_X6_pass]); omega)) (kr_B (fun w1 hw1 => ?_)) kx_B
  obtain ⟨hJ2, ⟨f, hf1, hf2⟩, hfr⟩ := hw1
  refine g_istore6 dL_law_163 ?_
  refine g_aload2 dL_law_165 ?_
  refine g_callV0 kc7 (mt_thrown hJ2.2.1) md_X6_thrown dL_law_166 ml_L_93 im_X6_thrown se_X6_thrown hJ2.2.1.1 (RmOk.of (Nat.le_of_ble_eq_true rfl) (Nat.le_of_ble_eq_true rfl) (Nat.le_of_ble_eq_true rfl) (by (try dsimp only [room_1, rm_L_pass, rm_X6_pass, rm_X6_thrown]); omega) (by (try dsimp only [room_1, rm_L_pass, rm_X6_pass, rm_X6_thrown]); omega)) (kr_V ?_) kx_V
  refine g_iload5 dL_law_169 ?_
  refine g_icmp_eq_t (tgt := 176) dL_law_171 (by decide) rfl ?_
  refine g_iload5 dL_law_176 ?_
  refine g_if_ne (tgt := 193) dL_law_178 (by decide) (fun hth => ?_) (fun hth => ?_)
  · skip
    refine g_goto (tgt := 1432) dL_law_193 (by decide) ?_
    exact hk _ _ _ _ _ _ _ _ hJ2 (by dsimp only [rm_L_pass, rm_X6_pass, rm_X6_thrown]; omega) (by dsimp only [rm_L_pass, rm_X6_pass, rm_X6_thrown]; omega)
  · skip
    refine g_aload3 dL_law_181 ?_
    refine g_iconst (v := 0) dL_law_182 (by decide) ?_
    refine g_lald dL_law_183 hf1 (vp_in_nI (show 0 < 1 by decide) (by decide)) ?_
    rw [show f (0 : Int32).toNatClampNeg = v.toInt64 from hf2 (nI_z h3 hth)]
    refine g_iload6 dL_law_184 ?_
    refine g_i2l dL_law_186 ?_
    refine g_lcmp dL_law_187 ?_
    refine g_if_eq_t (tgt := 193) dL_law_188 (by decide) (lcmp_self _) ?_
    refine g_goto (tgt := 1432) dL_law_193 (by decide) ?_
    exact hk _ _ _ _ _ _ _ _ hJ2 (by dsimp only [rm_L_pass, rm_X6_pass, rm_X6_thrown]; omega) (by dsimp only [rm_L_pass, rm_X6_pass, rm_X6_thrown]; omega)

set_option maxRecDepth 100000 in
theorem la_format (hF : Fx G X am ou) (hJ : Jn G X kp am ou th0 N A w) (hs : va_X sc Ln xs C.2.2.1 C.2.2.1.heap) (hsb : sc < (gH G).size) (hLn : Ln < 2 ^ 31) (hi : i + 5 < Ln) (hc9 : c + 800 ≤ 601024) (hk9 : k + 8000 ≤ 7293034)
    (hk : ∀ w2 th N' A' c2 k2 x5 x6, Jn G X kp am ou th N' A' w2 → c2 ≤ c + 800 → k2 ≤ k + 8000 → Go G room_1 cL_law RL Y C Q 1432 [some (.ref sc), some (.ref kp), some (.ref (am 0)), some (.ref ou), some (.int (nI i)), x5, x6] [] w2 c2 k2) :
    Go G room_1 cL_law RL Y C Q 196 [some (.ref sc), some (.ref kp), some (.ref (am 0)), some (.ref ou), some (.int (nI i)), y5, y6] [] w c k := by
  obtain ⟨th, v, N', A', h3, hc, hbo⟩ := bo_format hF hJ (xs (i + 1)) (xs (i + 2)) (xs (i + 3))
  refine g_aload1 dL_law_196 ?_
  refine g_aload0 dL_law_197 ?_
  refine g_iload4 dL_law_198 ?_
  refine g_iconst (v := 1) dL_law_200 (by decide) ?_
  refine g_iadd dL_law_201 ?_
  rw [show nI i + 1 = nI (i + 1) from nI_add i 1]
  refine g_sald dL_law_202 hs hsb (vp_in_nI (show i + 1 < Ln by omega) hLn) ?_
  rw [nI_clamp (by omega)]
  refine g_aload0 dL_law_203 ?_
  refine g_iload4 dL_law_204 ?_
  refine g_iconst (v := 2) dL_law_206 (by decide) ?_
  refine g_iadd dL_law_207 ?_
  rw [show nI i + 2 = nI (i + 2) from nI_add i 2]
  refine g_sald dL_law_208 hs hsb (vp_in_nI (show i + 2 < Ln by omega) hLn) ?_
  rw [nI_clamp (by omega)]
  refine g_aload0 dL_law_209 ?_
  refine g_iload4 dL_law_210 ?_
  refine g_iconst (v := 3) dL_law_212 (by decide) ?_
  refine g_iadd dL_law_213 ?_
  rw [show nI i + 3 = nI (i + 3) from nI_add i 3]
  refine g_sald dL_law_214 hs hsb (vp_in_nI (show i + 3 < Ln by omega) hLn) ?_
  rw [nI_clamp (by omega)]
  refine g_aload3 dL_law_215 ?_
  refine g_callSW5 hc md_L_format dL_law_216 ml_L_96 st_L_format (RmOk.of (Nat.le_of_ble_eq_true rfl) (Nat.le_of_ble_eq_true rfl) (Nat.le_of_ble_eq_true rfl) (by (try dsimp only [room_1, rm_L_format]); omega) (by (try dsimp only [room_1, rm_L_format]); omega)) (kr_B (fun w1 hw1 => ?_)) kx_B
  have hm := hbo w1 hw1
  have hmz := hw1.mz hJ.2.1 hF.2.2.2.1 hF.2.2.2.2.1
  refine g_istore5 dL_law_219 ?_
  refine g_aload2 dL_law_221 ?_
  refine g_aload0 dL_law_222 ?_
  refine g_iload4 dL_law_223 ?_
  refine g_iconst (v := 1) dL_law_225 (by decide) ?_
  refine g_iadd dL_law_226 ?_
  rw [show nI i + 1 = nI (i + 1) from nI_add i 1]
  refine g_sald dL_law_227 hs hsb (vp_in_nI (show i + 1 < Ln by omega) hLn) ?_
  rw [nI_clamp (by omega)]
  refine g_aload0 dL_law_228 ?_
  refine g_iload4 dL_law_229 ?_
  refine g_iconst (v := 2) dL_law_231 (by decide) ?_
  refine g_iadd dL_law_232 ?_
  rw [show nI i + 2 = nI (i + 2) from nI_add i 2]
  refine g_sald dL_law_233 hs hsb (vp_in_nI (show i + 2 < Ln by omega) hLn) ?_
  rw [nI_clamp (by omega)]
  refine g_aload0 dL_law_234 ?_
  refine g_iload4 dL_law_235 ?_
  refine g_iconst (v := 3) dL_law_237 (by decide) ?_
  refine g_iadd dL_law_238 ?_
  rw [show nI i + 3 = nI (i + 3) from nI_add i 3]
  refine g_sald dL_law_239 hs hsb (vp_in_nI (show i + 3 < Ln by omega) hLn) ?_
  rw [nI_clamp (by omega)]
  refine g_callV3 kc7 hm md_X6_format dL_law_240 ml_L_99 im_X6_format se_X6_format hmz.1 (RmOk.of (Nat.le_of_ble_eq_true rfl) (Nat.le_of_ble_eq_true rfl) (Nat.le_of_ble_eq_true rfl) (by (try dsimp only [room_1, rm_L_format, rm_X6_format]); omega) (by (try dsimp only [room_1, rm_L_format, rm_X6_format]); omega)) (kr_B (fun w1 hw1 => ?_)) kx_B
  obtain ⟨hJ2, ⟨f, hf1, hf2⟩, hfr⟩ := hw1
  refine g_istore6 dL_law_243 ?_
  refine g_aload2 dL_law_245 ?_
  refine g_callV0 kc7 (mt_thrown hJ2.2.1) md_X6_thrown dL_law_246 ml_L_93 im_X6_thrown se_X6_thrown hJ2.2.1.1 (RmOk.of (Nat.le_of_ble_eq_true rfl) (Nat.le_of_ble_eq_true rfl) (Nat.le_of_ble_eq_true rfl) (by (try dsimp only [room_1, rm_L_format, rm_X6_format, rm_X6_thrown]); omega) (by (try dsimp only [room_1, rm_L_format, rm_X6_format, rm_X6_thrown]); omega)) (kr_V ?_) kx_V
  refine g_iload5 dL_law_249 ?_
  refine g_icmp_eq_t (tgt := 256) dL_law_251 (by decide) rfl ?_
  refine g_iload5 dL_law_256 ?_
  refine g_if_ne (tgt := 273) dL_law_258 (by decide) (fun hth => ?_) (fun hth => ?_)
  · skip
    refine g_goto (tgt := 1432) dL_law_273 (by decide) ?_
    exact hk _ _ _ _ _ _ _ _ hJ2 (by dsimp only [rm_L_format, rm_X6_format, rm_X6_thrown]; omega) (by dsimp only [rm_L_format, rm_X6_format, rm_X6_thrown]; omega)
  · skip
    refine g_aload3 dL_law_261 ?_
    refine g_iconst (v := 0) dL_law_262 (by decide) ?_
    refine g_lald dL_law_263 hf1 (vp_in_nI (show 0 < 1 by decide) (by decide)) ?_
    rw [show f (0 : Int32).toNatClampNeg = v.toInt64 from hf2 (nI_z h3 hth)]
    refine g_iload6 dL_law_264 ?_
    refine g_i2l dL_law_266 ?_
    refine g_lcmp dL_law_267 ?_
    refine g_if_eq_t (tgt := 273) dL_law_268 (by decide) (lcmp_self _) ?_
    refine g_goto (tgt := 1432) dL_law_273 (by decide) ?_
    exact hk _ _ _ _ _ _ _ _ hJ2 (by dsimp only [rm_L_format, rm_X6_format, rm_X6_thrown]; omega) (by dsimp only [rm_L_format, rm_X6_format, rm_X6_thrown]; omega)

set_option maxRecDepth 100000 in
theorem la_line (hF : Fx G X am ou) (hJ : Jn G X kp am ou th0 N A w) (hs : va_X sc Ln xs C.2.2.1 C.2.2.1.heap) (hsb : sc < (gH G).size) (hLn : Ln < 2 ^ 31) (hi : i + 5 < Ln) (hc9 : c + 800 ≤ 601024) (hk9 : k + 8000 ≤ 7293034)
    (hk : ∀ w2 th N' A' c2 k2 x5 x6, Jn G X kp am ou th N' A' w2 → c2 ≤ c + 800 → k2 ≤ k + 8000 → Go G room_1 cL_law RL Y C Q 1432 [some (.ref sc), some (.ref kp), some (.ref (am 0)), some (.ref ou), some (.int (nI i)), x5, x6] [] w2 c2 k2) :
    Go G room_1 cL_law RL Y C Q 276 [some (.ref sc), some (.ref kp), some (.ref (am 0)), some (.ref ou), some (.int (nI i)), y5, y6] [] w c k := by
  obtain ⟨th, v, N', A', h3, hc, hbo⟩ := bo_line hF hJ (xs (i + 1))
  refine g_aload1 dL_law_276 ?_
  refine g_aload0 dL_law_277 ?_
  refine g_iload4 dL_law_278 ?_
  refine g_iconst (v := 1) dL_law_280 (by decide) ?_
  refine g_iadd dL_law_281 ?_
  rw [show nI i + 1 = nI (i + 1) from nI_add i 1]
  refine g_sald dL_law_282 hs hsb (vp_in_nI (show i + 1 < Ln by omega) hLn) ?_
  rw [nI_clamp (by omega)]
  refine g_aload3 dL_law_283 ?_
  refine g_callSW3 hc md_L_line dL_law_284 ml_L_100 st_L_line (RmOk.of (Nat.le_of_ble_eq_true rfl) (Nat.le_of_ble_eq_true rfl) (Nat.le_of_ble_eq_true rfl) (by (try dsimp only [room_1, rm_L_line]); omega) (by (try dsimp only [room_1, rm_L_line]); omega)) (kr_B (fun w1 hw1 => ?_)) kx_B
  have hm := hbo w1 hw1
  have hmz := hw1.mz hJ.2.1 hF.2.2.2.1 hF.2.2.2.2.1
  refine g_istore5 dL_law_287 ?_
  refine g_aload2 dL_law_289 ?_
  refine g_aload0 dL_law_290 ?_
  refine g_iload4 dL_law_291 ?_
  refine g_iconst (v := 1) dL_law_293 (by decide) ?_
  refine g_iadd dL_law_294 ?_
  rw [show nI i + 1 = nI (i + 1) from nI_add i 1]
  refine g_sald dL_law_295 hs hsb (vp_in_nI (show i + 1 < Ln by omega) hLn) ?_
  rw [nI_clamp (by omega)]
  refine g_callV1 kc7 hm md_X6_line dL_law_296 ml_L_102 im_X6_line se_X6_line hmz.1 (RmOk.of (Nat.le_of_ble_eq_true rfl) (Nat.le_of_ble_eq_true rfl) (Nat.le_of_ble_eq_true rfl) (by (try dsimp only [room_1, rm_L_line, rm_X6_line]); omega) (by (try dsimp only [room_1, rm_L_line, rm_X6_line]); omega)) (kr_B (fun w1 hw1 => ?_)) kx_B
  obtain ⟨hJ2, ⟨f, hf1, hf2⟩, hfr⟩ := hw1
  refine g_istore6 dL_law_299 ?_
  refine g_aload2 dL_law_301 ?_
  refine g_callV0 kc7 (mt_thrown hJ2.2.1) md_X6_thrown dL_law_302 ml_L_93 im_X6_thrown se_X6_thrown hJ2.2.1.1 (RmOk.of (Nat.le_of_ble_eq_true rfl) (Nat.le_of_ble_eq_true rfl) (Nat.le_of_ble_eq_true rfl) (by (try dsimp only [room_1, rm_L_line, rm_X6_line, rm_X6_thrown]); omega) (by (try dsimp only [room_1, rm_L_line, rm_X6_line, rm_X6_thrown]); omega)) (kr_V ?_) kx_V
  refine g_iload5 dL_law_305 ?_
  refine g_icmp_eq_t (tgt := 312) dL_law_307 (by decide) rfl ?_
  refine g_iload5 dL_law_312 ?_
  refine g_if_ne (tgt := 329) dL_law_314 (by decide) (fun hth => ?_) (fun hth => ?_)
  · skip
    refine g_goto (tgt := 1432) dL_law_329 (by decide) ?_
    exact hk _ _ _ _ _ _ _ _ hJ2 (by dsimp only [rm_L_line, rm_X6_line, rm_X6_thrown]; omega) (by dsimp only [rm_L_line, rm_X6_line, rm_X6_thrown]; omega)
  · skip
    refine g_aload3 dL_law_317 ?_
    refine g_iconst (v := 0) dL_law_318 (by decide) ?_
    refine g_lald dL_law_319 hf1 (vp_in_nI (show 0 < 1 by decide) (by decide)) ?_
    rw [show f (0 : Int32).toNatClampNeg = v.toInt64 from hf2 (nI_z h3 hth)]
    refine g_iload6 dL_law_320 ?_
    refine g_i2l dL_law_322 ?_
    refine g_lcmp dL_law_323 ?_
    refine g_if_eq_t (tgt := 329) dL_law_324 (by decide) (lcmp_self _) ?_
    refine g_goto (tgt := 1432) dL_law_329 (by decide) ?_
    exact hk _ _ _ _ _ _ _ _ hJ2 (by dsimp only [rm_L_line, rm_X6_line, rm_X6_thrown]; omega) (by dsimp only [rm_L_line, rm_X6_line, rm_X6_thrown]; omega)

set_option maxRecDepth 100000 in
theorem la_feed (hF : Fx G X am ou) (hJ : Jn G X kp am ou th0 N A w) (hs : va_X sc Ln xs C.2.2.1 C.2.2.1.heap) (hsb : sc < (gH G).size) (hLn : Ln < 2 ^ 31) (hi : i + 5 < Ln) (hc9 : c + 800 ≤ 601024) (hk9 : k + 8000 ≤ 7293034)
    (hk : ∀ w2 th N' A' c2 k2 x5 x6, Jn G X kp am ou th N' A' w2 → c2 ≤ c + 800 → k2 ≤ k + 8000 → Go G room_1 cL_law RL Y C Q 1432 [some (.ref sc), some (.ref kp), some (.ref (am 0)), some (.ref ou), some (.int (nI i)), x5, x6] [] w2 c2 k2) :
    Go G room_1 cL_law RL Y C Q 332 [some (.ref sc), some (.ref kp), some (.ref (am 0)), some (.ref ou), some (.int (nI i)), y5, y6] [] w c k := by
  obtain ⟨th, v, N', A', h3, hc, hbo⟩ := bo_feed hF hJ 
  refine g_aload1 dL_law_332 ?_
  refine g_aload3 dL_law_333 ?_
  refine g_callSW2 hc md_L_feed dL_law_334 ml_L_103 st_L_feed (RmOk.of (Nat.le_of_ble_eq_true rfl) (Nat.le_of_ble_eq_true rfl) (Nat.le_of_ble_eq_true rfl) (by (try dsimp only [room_1, rm_L_feed]); omega) (by (try dsimp only [room_1, rm_L_feed]); omega)) (kr_B (fun w1 hw1 => ?_)) kx_B
  have hm := hbo w1 hw1
  have hmz := hw1.mz hJ.2.1 hF.2.2.2.1 hF.2.2.2.2.1
  refine g_istore5 dL_law_337 ?_
  refine g_aload2 dL_law_339 ?_
  refine g_callV0 kc7 hm md_X6_feed dL_law_340 ml_L_106 im_X6_feed se_X6_feed hmz.1 (RmOk.of (Nat.le_of_ble_eq_true rfl) (Nat.le_of_ble_eq_true rfl) (Nat.le_of_ble_eq_true rfl) (by (try dsimp only [room_1, rm_L_feed, rm_X6_feed]); omega) (by (try dsimp only [room_1, rm_L_feed, rm_X6_feed]); omega)) (kr_B (fun w1 hw1 => ?_)) kx_B
  obtain ⟨hJ2, ⟨f, hf1, hf2⟩, hfr⟩ := hw1
  refine g_istore6 dL_law_343 ?_
  refine g_aload2 dL_law_345 ?_
  refine g_callV0 kc7 (mt_thrown hJ2.2.1) md_X6_thrown dL_law_346 ml_L_93 im_X6_thrown se_X6_thrown hJ2.2.1.1 (RmOk.of (Nat.le_of_ble_eq_true rfl) (Nat.le_of_ble_eq_true rfl) (Nat.le_of_ble_eq_true rfl) (by (try dsimp only [room_1, rm_L_feed, rm_X6_feed, rm_X6_thrown]); omega) (by (try dsimp only [room_1, rm_L_feed, rm_X6_feed, rm_X6_thrown]); omega)) (kr_V ?_) kx_V
  refine g_iload5 dL_law_349 ?_
  refine g_icmp_eq_t (tgt := 356) dL_law_351 (by decide) rfl ?_
  refine g_iload5 dL_law_356 ?_
  refine g_if_ne (tgt := 373) dL_law_358 (by decide) (fun hth => ?_) (fun hth => ?_)
  · skip
    refine g_goto (tgt := 1432) dL_law_373 (by decide) ?_
    exact hk _ _ _ _ _ _ _ _ hJ2 (by dsimp only [rm_L_feed, rm_X6_feed, rm_X6_thrown]; omega) (by dsimp only [rm_L_feed, rm_X6_feed, rm_X6_thrown]; omega)
  · skip
    refine g_aload3 dL_law_361 ?_
    refine g_iconst (v := 0) dL_law_362 (by decide) ?_
    refine g_lald dL_law_363 hf1 (vp_in_nI (show 0 < 1 by decide) (by decide)) ?_
    rw [show f (0 : Int32).toNatClampNeg = v.toInt64 from hf2 (nI_z h3 hth)]
    refine g_iload6 dL_law_364 ?_
    refine g_i2l dL_law_366 ?_
    refine g_lcmp dL_law_367 ?_
    refine g_if_eq_t (tgt := 373) dL_law_368 (by decide) (lcmp_self _) ?_
    refine g_goto (tgt := 1432) dL_law_373 (by decide) ?_
    exact hk _ _ _ _ _ _ _ _ hJ2 (by dsimp only [rm_L_feed, rm_X6_feed, rm_X6_thrown]; omega) (by dsimp only [rm_L_feed, rm_X6_feed, rm_X6_thrown]; omega)

set_option maxRecDepth 100000 in
theorem la_end (hF : Fx G X am ou) (hJ : Jn G X kp am ou th0 N A w) (hs : va_X sc Ln xs C.2.2.1 C.2.2.1.heap) (hsb : sc < (gH G).size) (hLn : Ln < 2 ^ 31) (hi : i + 5 < Ln) (hc9 : c + 800 ≤ 601024) (hk9 : k + 8000 ≤ 7293034)
    (hk : ∀ w2 th N' A' c2 k2 x5 x6, Jn G X kp am ou th N' A' w2 → c2 ≤ c + 800 → k2 ≤ k + 8000 → Go G room_1 cL_law RL Y C Q 1432 [some (.ref sc), some (.ref kp), some (.ref (am 0)), some (.ref ou), some (.int (nI i)), x5, x6] [] w2 c2 k2) :
    Go G room_1 cL_law RL Y C Q 376 [some (.ref sc), some (.ref kp), some (.ref (am 0)), some (.ref ou), some (.int (nI i)), y5, y6] [] w c k := by
  obtain ⟨th, v, N', A', h3, hc, hbo⟩ := bo_end hF hJ 
  refine g_aload1 dL_law_376 ?_
  refine g_aload3 dL_law_377 ?_
  refine g_callSW2 hc md_L_end dL_law_378 ml_L_107 st_L_end (RmOk.of (Nat.le_of_ble_eq_true rfl) (Nat.le_of_ble_eq_true rfl) (Nat.le_of_ble_eq_true rfl) (by (try dsimp only [room_1, rm_L_end]); omega) (by (try dsimp only [room_1, rm_L_end]); omega)) (kr_B (fun w1 hw1 => ?_)) kx_B
  have hm := hbo w1 hw1
  have hmz := hw1.mz hJ.2.1 hF.2.2.2.1 hF.2.2.2.2.1
  refine g_istore5 dL_law_381 ?_
  refine g_aload2 dL_law_383 ?_
  refine g_callV0 kc7 hm md_X6_end dL_law_384 ml_L_109 im_X6_end se_X6_end hmz.1 (RmOk.of (Nat.le_of_ble_eq_true rfl) (Nat.le_of_ble_eq_true rfl) (Nat.le_of_ble_eq_true rfl) (by (try dsimp only [room_1, rm_L_end, rm_X6_end]); omega) (by (try dsimp only [room_1, rm_L_end, rm_X6_end]); omega)) (kr_B (fun w1 hw1 => ?_)) kx_B
  obtain ⟨hJ2, ⟨f, hf1, hf2⟩, hfr⟩ := hw1
  refine g_istore6 dL_law_387 ?_
  refine g_aload2 dL_law_389 ?_
  refine g_callV0 kc7 (mt_thrown hJ2.2.1) md_X6_thrown dL_law_390 ml_L_93 im_X6_thrown se_X6_thrown hJ2.2.1.1 (RmOk.of (Nat.le_of_ble_eq_true rfl) (Nat.le_of_ble_eq_true rfl) (Nat.le_of_ble_eq_true rfl) (by (try dsimp only [room_1, rm_L_end, rm_X6_end, rm_X6_thrown]); omega) (by (try dsimp only [room_1, rm_L_end, rm_X6_end, rm_X6_thrown]); omega)) (kr_V ?_) kx_V
  refine g_iload5 dL_law_393 ?_
  refine g_icmp_eq_t (tgt := 400) dL_law_395 (by decide) rfl ?_
  refine g_iload5 dL_law_400 ?_
  refine g_if_ne (tgt := 417) dL_law_402 (by decide) (fun hth => ?_) (fun hth => ?_)
  · skip
    refine g_goto (tgt := 1432) dL_law_417 (by decide) ?_
    exact hk _ _ _ _ _ _ _ _ hJ2 (by dsimp only [rm_L_end, rm_X6_end, rm_X6_thrown]; omega) (by dsimp only [rm_L_end, rm_X6_end, rm_X6_thrown]; omega)
  · skip
    refine g_aload3 dL_law_405 ?_
    refine g_iconst (v := 0) dL_law_406 (by decide) ?_
    refine g_lald dL_law_407 hf1 (vp_in_nI (show 0 < 1 by decide) (by decide)) ?_
    rw [show f (0 : Int32).toNatClampNeg = v.toInt64 from hf2 (nI_z h3 hth)]
    refine g_iload6 dL_law_408 ?_
    refine g_i2l dL_law_410 ?_
    refine g_lcmp dL_law_411 ?_
    refine g_if_eq_t (tgt := 417) dL_law_412 (by decide) (lcmp_self _) ?_
    refine g_goto (tgt := 1432) dL_law_417 (by decide) ?_
    exact hk _ _ _ _ _ _ _ _ hJ2 (by dsimp only [rm_L_end, rm_X6_end, rm_X6_thrown]; omega) (by dsimp only [rm_L_end, rm_X6_end, rm_X6_thrown]; omega)

set_option maxRecDepth 100000 in
theorem la_pages (hF : Fx G X am ou) (hJ : Jn G X kp am ou th0 N A w) (hs : va_X sc Ln xs C.2.2.1 C.2.2.1.heap) (hsb : sc < (gH G).size) (hLn : Ln < 2 ^ 31) (hi : i + 5 < Ln) (hc9 : c + 800 ≤ 601024) (hk9 : k + 8000 ≤ 7293034)
    (hk : ∀ w2 th N' A' c2 k2 x5 x6, Jn G X kp am ou th N' A' w2 → c2 ≤ c + 800 → k2 ≤ k + 8000 → Go G room_1 cL_law RL Y C Q 1432 [some (.ref sc), some (.ref kp), some (.ref (am 0)), some (.ref ou), some (.int (nI i)), x5, x6] [] w2 c2 k2) :
    Go G room_1 cL_law RL Y C Q 420 [some (.ref sc), some (.ref kp), some (.ref (am 0)), some (.ref ou), some (.int (nI i)), y5, y6] [] w c k := by
  obtain ⟨th, v, N', A', h3, hc, hbo⟩ := bo_pages hF hJ (xs (i + 1))
  refine g_aload1 dL_law_420 ?_
  refine g_aload0 dL_law_421 ?_
  refine g_iload4 dL_law_422 ?_
  refine g_iconst (v := 1) dL_law_424 (by decide) ?_
  refine g_iadd dL_law_425 ?_
  rw [show nI i + 1 = nI (i + 1) from nI_add i 1]
  refine g_sald dL_law_426 hs hsb (vp_in_nI (show i + 1 < Ln by omega) hLn) ?_
  rw [nI_clamp (by omega)]
  refine g_aload3 dL_law_427 ?_
  refine g_callSW3 hc md_L_pages dL_law_428 ml_L_110 st_L_pages (RmOk.of (Nat.le_of_ble_eq_true rfl) (Nat.le_of_ble_eq_true rfl) (Nat.le_of_ble_eq_true rfl) (by (try dsimp only [room_1, rm_L_pages]); omega) (by (try dsimp only [room_1, rm_L_pages]); omega)) (kr_B (fun w1 hw1 => ?_)) kx_B
  have hm := hbo w1 hw1
  have hmz := hw1.mz hJ.2.1 hF.2.2.2.1 hF.2.2.2.2.1
  refine g_istore5 dL_law_431 ?_
  refine g_aload2 dL_law_433 ?_
  refine g_aload0 dL_law_434 ?_
  refine g_iload4 dL_law_435 ?_
  refine g_iconst (v := 1) dL_law_437 (by decide) ?_
  refine g_iadd dL_law_438 ?_
  rw [show nI i + 1 = nI (i + 1) from nI_add i 1]
  refine g_sald dL_law_439 hs hsb (vp_in_nI (show i + 1 < Ln by omega) hLn) ?_
  rw [nI_clamp (by omega)]
  refine g_callV1 kc7 hm md_X6_pages dL_law_440 ml_L_112 im_X6_pages se_X6_pages hmz.1 (RmOk.of (Nat.le_of_ble_eq_true rfl) (Nat.le_of_ble_eq_true rfl) (Nat.le_of_ble_eq_true rfl) (by (try dsimp only [room_1, rm_L_pages, rm_X6_pages]); omega) (by (try dsimp only [room_1, rm_L_pages, rm_X6_pages]); omega)) (kr_B (fun w1 hw1 => ?_)) kx_B
  obtain ⟨hJ2, ⟨f, hf1, hf2⟩, hfr⟩ := hw1
  refine g_istore6 dL_law_443 ?_
  refine g_aload2 dL_law_445 ?_
  refine g_callV0 kc7 (mt_thrown hJ2.2.1) md_X6_thrown dL_law_446 ml_L_93 im_X6_thrown se_X6_thrown hJ2.2.1.1 (RmOk.of (Nat.le_of_ble_eq_true rfl) (Nat.le_of_ble_eq_true rfl) (Nat.le_of_ble_eq_true rfl) (by (try dsimp only [room_1, rm_L_pages, rm_X6_pages, rm_X6_thrown]); omega) (by (try dsimp only [room_1, rm_L_pages, rm_X6_pages, rm_X6_thrown]); omega)) (kr_V ?_) kx_V
  refine g_iload5 dL_law_449 ?_
  refine g_icmp_eq_t (tgt := 456) dL_law_451 (by decide) rfl ?_
  refine g_iload5 dL_law_456 ?_
  refine g_if_ne (tgt := 473) dL_law_458 (by decide) (fun hth => ?_) (fun hth => ?_)
  · skip
    refine g_goto (tgt := 1432) dL_law_473 (by decide) ?_
    exact hk _ _ _ _ _ _ _ _ hJ2 (by dsimp only [rm_L_pages, rm_X6_pages, rm_X6_thrown]; omega) (by dsimp only [rm_L_pages, rm_X6_pages, rm_X6_thrown]; omega)
  · skip
    refine g_aload3 dL_law_461 ?_
    refine g_iconst (v := 0) dL_law_462 (by decide) ?_
    refine g_lald dL_law_463 hf1 (vp_in_nI (show 0 < 1 by decide) (by decide)) ?_
    rw [show f (0 : Int32).toNatClampNeg = v.toInt64 from hf2 (nI_z h3 hth)]
    refine g_iload6 dL_law_464 ?_
    refine g_i2l dL_law_466 ?_
    refine g_lcmp dL_law_467 ?_
    refine g_if_eq_t (tgt := 473) dL_law_468 (by decide) (lcmp_self _) ?_
    refine g_goto (tgt := 1432) dL_law_473 (by decide) ?_
    exact hk _ _ _ _ _ _ _ _ hJ2 (by dsimp only [rm_L_pages, rm_X6_pages, rm_X6_thrown]; omega) (by dsimp only [rm_L_pages, rm_X6_pages, rm_X6_thrown]; omega)

set_option maxRecDepth 100000 in
theorem la_twice (hF : Fx G X am ou) (hJ : Jn G X kp am ou th0 N A w) (hs : va_X sc Ln xs C.2.2.1 C.2.2.1.heap) (hsb : sc < (gH G).size) (hLn : Ln < 2 ^ 31) (hi : i + 5 < Ln) (hc9 : c + 800 ≤ 601024) (hk9 : k + 8000 ≤ 7293034)
    (hk : ∀ w2 th N' A' c2 k2 x5 x6, Jn G X kp am ou th N' A' w2 → c2 ≤ c + 800 → k2 ≤ k + 8000 → Go G room_1 cL_law RL Y C Q 1432 [some (.ref sc), some (.ref kp), some (.ref (am 0)), some (.ref ou), some (.int (nI i)), x5, x6] [] w2 c2 k2) :
    Go G room_1 cL_law RL Y C Q 476 [some (.ref sc), some (.ref kp), some (.ref (am 0)), some (.ref ou), some (.int (nI i)), y5, y6] [] w c k := by
  obtain ⟨th, v, N', A', h3, hc, hbo⟩ := bo_twice hF hJ (xs (i + 1))
  refine g_aload1 dL_law_476 ?_
  refine g_aload0 dL_law_477 ?_
  refine g_iload4 dL_law_478 ?_
  refine g_iconst (v := 1) dL_law_480 (by decide) ?_
  refine g_iadd dL_law_481 ?_
  rw [show nI i + 1 = nI (i + 1) from nI_add i 1]
  refine g_sald dL_law_482 hs hsb (vp_in_nI (show i + 1 < Ln by omega) hLn) ?_
  rw [nI_clamp (by omega)]
  refine g_aload3 dL_law_483 ?_
  refine g_callSW3 hc md_L_twice dL_law_484 ml_L_113 st_L_twice (RmOk.of (Nat.le_of_ble_eq_true rfl) (Nat.le_of_ble_eq_true rfl) (Nat.le_of_ble_eq_true rfl) (by (try dsimp only [room_1, rm_L_twice]); omega) (by (try dsimp only [room_1, rm_L_twice]); omega)) (kr_B (fun w1 hw1 => ?_)) kx_B
  have hm := hbo w1 hw1
  have hmz := hw1.mz hJ.2.1 hF.2.2.2.1 hF.2.2.2.2.1
  refine g_istore5 dL_law_487 ?_
  refine g_aload2 dL_law_489 ?_
  refine g_aload0 dL_law_490 ?_
  refine g_iload4 dL_law_491 ?_
  refine g_iconst (v := 1) dL_law_493 (by decide) ?_
  refine g_iadd dL_law_494 ?_
  rw [show nI i + 1 = nI (i + 1) from nI_add i 1]
  refine g_sald dL_law_495 hs hsb (vp_in_nI (show i + 1 < Ln by omega) hLn) ?_
  rw [nI_clamp (by omega)]
  refine g_callV1 kc7 hm md_X6_twice dL_law_496 ml_L_115 im_X6_twice se_X6_twice hmz.1 (RmOk.of (Nat.le_of_ble_eq_true rfl) (Nat.le_of_ble_eq_true rfl) (Nat.le_of_ble_eq_true rfl) (by (try dsimp only [room_1, rm_L_twice, rm_X6_twice]); omega) (by (try dsimp only [room_1, rm_L_twice, rm_X6_twice]); omega)) (kr_B (fun w1 hw1 => ?_)) kx_B
  obtain ⟨hJ2, ⟨f, hf1, hf2⟩, hfr⟩ := hw1
  refine g_istore6 dL_law_499 ?_
  refine g_aload2 dL_law_501 ?_
  refine g_callV0 kc7 (mt_thrown hJ2.2.1) md_X6_thrown dL_law_502 ml_L_93 im_X6_thrown se_X6_thrown hJ2.2.1.1 (RmOk.of (Nat.le_of_ble_eq_true rfl) (Nat.le_of_ble_eq_true rfl) (Nat.le_of_ble_eq_true rfl) (by (try dsimp only [room_1, rm_L_twice, rm_X6_twice, rm_X6_thrown]); omega) (by (try dsimp only [room_1, rm_L_twice, rm_X6_twice, rm_X6_thrown]); omega)) (kr_V ?_) kx_V
  refine g_iload5 dL_law_505 ?_
  refine g_icmp_eq_t (tgt := 512) dL_law_507 (by decide) rfl ?_
  refine g_iload5 dL_law_512 ?_
  refine g_if_ne (tgt := 529) dL_law_514 (by decide) (fun hth => ?_) (fun hth => ?_)
  · skip
    refine g_goto (tgt := 1432) dL_law_529 (by decide) ?_
    exact hk _ _ _ _ _ _ _ _ hJ2 (by dsimp only [rm_L_twice, rm_X6_twice, rm_X6_thrown]; omega) (by dsimp only [rm_L_twice, rm_X6_twice, rm_X6_thrown]; omega)
  · skip
    refine g_aload3 dL_law_517 ?_
    refine g_iconst (v := 0) dL_law_518 (by decide) ?_
    refine g_lald dL_law_519 hf1 (vp_in_nI (show 0 < 1 by decide) (by decide)) ?_
    rw [show f (0 : Int32).toNatClampNeg = v.toInt64 from hf2 (nI_z h3 hth)]
    refine g_iload6 dL_law_520 ?_
    refine g_i2l dL_law_522 ?_
    refine g_lcmp dL_law_523 ?_
    refine g_if_eq_t (tgt := 529) dL_law_524 (by decide) (lcmp_self _) ?_
    refine g_goto (tgt := 1432) dL_law_529 (by decide) ?_
    exact hk _ _ _ _ _ _ _ _ hJ2 (by dsimp only [rm_L_twice, rm_X6_twice, rm_X6_thrown]; omega) (by dsimp only [rm_L_twice, rm_X6_twice, rm_X6_thrown]; omega)

set_option maxRecDepth 100000 in
theorem la_reprint (hF : Fx G X am ou) (hJ : Jn G X kp am ou th0 N A w) (hs : va_X sc Ln xs C.2.2.1 C.2.2.1.heap) (hsb : sc < (gH G).size) (hLn : Ln < 2 ^ 31) (hi : i + 5 < Ln) (hc9 : c + 800 ≤ 601024) (hk9 : k + 8000 ≤ 7293034)
    (hk : ∀ w2 th N' A' c2 k2 x5 x6, Jn G X kp am ou th N' A' w2 → c2 ≤ c + 800 → k2 ≤ k + 8000 → Go G room_1 cL_law RL Y C Q 1432 [some (.ref sc), some (.ref kp), some (.ref (am 0)), some (.ref ou), some (.int (nI i)), x5, x6] [] w2 c2 k2) :
    Go G room_1 cL_law RL Y C Q 532 [some (.ref sc), some (.ref kp), some (.ref (am 0)), some (.ref ou), some (.int (nI i)), y5, y6] [] w c k := by
  obtain ⟨th, v, N', A', h3, hc, hbo⟩ := bo_reprint hF hJ (xs (i + 1)) (xs (i + 2)) (xs (i + 3))
  refine g_aload1 dL_law_532 ?_
  refine g_aload0 dL_law_533 ?_
  refine g_iload4 dL_law_534 ?_
  refine g_iconst (v := 1) dL_law_536 (by decide) ?_
  refine g_iadd dL_law_537 ?_
  rw [show nI i + 1 = nI (i + 1) from nI_add i 1]
  refine g_sald dL_law_538 hs hsb (vp_in_nI (show i + 1 < Ln by omega) hLn) ?_
  rw [nI_clamp (by omega)]
  refine g_aload0 dL_law_539 ?_
  refine g_iload4 dL_law_540 ?_
  refine g_iconst (v := 2) dL_law_542 (by decide) ?_
  refine g_iadd dL_law_543 ?_
  rw [show nI i + 2 = nI (i + 2) from nI_add i 2]
  refine g_sald dL_law_544 hs hsb (vp_in_nI (show i + 2 < Ln by omega) hLn) ?_
  rw [nI_clamp (by omega)]
  refine g_aload0 dL_law_545 ?_
  refine g_iload4 dL_law_546 ?_
  refine g_iconst (v := 3) dL_law_548 (by decide) ?_
  refine g_iadd dL_law_549 ?_
  rw [show nI i + 3 = nI (i + 3) from nI_add i 3]
  refine g_sald dL_law_550 hs hsb (vp_in_nI (show i + 3 < Ln by omega) hLn) ?_
  rw [nI_clamp (by omega)]
  refine g_aload3 dL_law_551 ?_
  refine g_callSW5 hc md_L_reprint dL_law_552 ml_L_116 st_L_reprint (RmOk.of (Nat.le_of_ble_eq_true rfl) (Nat.le_of_ble_eq_true rfl) (Nat.le_of_ble_eq_true rfl) (by (try dsimp only [room_1, rm_L_reprint]); omega) (by (try dsimp only [room_1, rm_L_reprint]); omega)) (kr_B (fun w1 hw1 => ?_)) kx_B
  have hm := hbo w1 hw1
  have hmz := hw1.mz hJ.2.1 hF.2.2.2.1 hF.2.2.2.2.1
  refine g_istore5 dL_law_555 ?_
  refine g_aload2 dL_law_557 ?_
  refine g_aload0 dL_law_558 ?_
  refine g_iload4 dL_law_559 ?_
  refine g_iconst (v := 1) dL_law_561 (by decide) ?_
  refine g_iadd dL_law_562 ?_
  rw [show nI i + 1 = nI (i + 1) from nI_add i 1]
  refine g_sald dL_law_563 hs hsb (vp_in_nI (show i + 1 < Ln by omega) hLn) ?_
  rw [nI_clamp (by omega)]
  refine g_aload0 dL_law_564 ?_
  refine g_iload4 dL_law_565 ?_
  refine g_iconst (v := 2) dL_law_567 (by decide) ?_
  refine g_iadd dL_law_568 ?_
  rw [show nI i + 2 = nI (i + 2) from nI_add i 2]
  refine g_sald dL_law_569 hs hsb (vp_in_nI (show i + 2 < Ln by omega) hLn) ?_
  rw [nI_clamp (by omega)]
  refine g_aload0 dL_law_570 ?_
  refine g_iload4 dL_law_571 ?_
  refine g_iconst (v := 3) dL_law_573 (by decide) ?_
  refine g_iadd dL_law_574 ?_
  rw [show nI i + 3 = nI (i + 3) from nI_add i 3]
  refine g_sald dL_law_575 hs hsb (vp_in_nI (show i + 3 < Ln by omega) hLn) ?_
  rw [nI_clamp (by omega)]
  refine g_callV3 kc7 hm md_X6_reprint dL_law_576 ml_L_118 im_X6_reprint se_X6_reprint hmz.1 (RmOk.of (Nat.le_of_ble_eq_true rfl) (Nat.le_of_ble_eq_true rfl) (Nat.le_of_ble_eq_true rfl) (by (try dsimp only [room_1, rm_L_reprint, rm_X6_reprint]); omega) (by (try dsimp only [room_1, rm_L_reprint, rm_X6_reprint]); omega)) (kr_B (fun w1 hw1 => ?_)) kx_B
  obtain ⟨hJ2, ⟨f, hf1, hf2⟩, hfr⟩ := hw1
  refine g_istore6 dL_law_579 ?_
  refine g_aload2 dL_law_581 ?_
  refine g_callV0 kc7 (mt_thrown hJ2.2.1) md_X6_thrown dL_law_582 ml_L_93 im_X6_thrown se_X6_thrown hJ2.2.1.1 (RmOk.of (Nat.le_of_ble_eq_true rfl) (Nat.le_of_ble_eq_true rfl) (Nat.le_of_ble_eq_true rfl) (by (try dsimp only [room_1, rm_L_reprint, rm_X6_reprint, rm_X6_thrown]); omega) (by (try dsimp only [room_1, rm_L_reprint, rm_X6_reprint, rm_X6_thrown]); omega)) (kr_V ?_) kx_V
  refine g_iload5 dL_law_585 ?_
  refine g_icmp_eq_t (tgt := 592) dL_law_587 (by decide) rfl ?_
  refine g_iload5 dL_law_592 ?_
  refine g_if_ne (tgt := 609) dL_law_594 (by decide) (fun hth => ?_) (fun hth => ?_)
  · skip
    refine g_goto (tgt := 1432) dL_law_609 (by decide) ?_
    exact hk _ _ _ _ _ _ _ _ hJ2 (by dsimp only [rm_L_reprint, rm_X6_reprint, rm_X6_thrown]; omega) (by dsimp only [rm_L_reprint, rm_X6_reprint, rm_X6_thrown]; omega)
  · skip
    refine g_aload3 dL_law_597 ?_
    refine g_iconst (v := 0) dL_law_598 (by decide) ?_
    refine g_lald dL_law_599 hf1 (vp_in_nI (show 0 < 1 by decide) (by decide)) ?_
    rw [show f (0 : Int32).toNatClampNeg = v.toInt64 from hf2 (nI_z h3 hth)]
    refine g_iload6 dL_law_600 ?_
    refine g_i2l dL_law_602 ?_
    refine g_lcmp dL_law_603 ?_
    refine g_if_eq_t (tgt := 609) dL_law_604 (by decide) (lcmp_self _) ?_
    refine g_goto (tgt := 1432) dL_law_609 (by decide) ?_
    exact hk _ _ _ _ _ _ _ _ hJ2 (by dsimp only [rm_L_reprint, rm_X6_reprint, rm_X6_thrown]; omega) (by dsimp only [rm_L_reprint, rm_X6_reprint, rm_X6_thrown]; omega)

set_option maxRecDepth 100000 in
theorem la_copies (hF : Fx G X am ou) (hJ : Jn G X kp am ou th0 N A w) (hs : va_X sc Ln xs C.2.2.1 C.2.2.1.heap) (hsb : sc < (gH G).size) (hLn : Ln < 2 ^ 31) (hi : i + 5 < Ln) (hc9 : c + 800 ≤ 601024) (hk9 : k + 8000 ≤ 7293034)
    (hk : ∀ w2 th N' A' c2 k2 x5 x6, Jn G X kp am ou th N' A' w2 → c2 ≤ c + 800 → k2 ≤ k + 8000 → Go G room_1 cL_law RL Y C Q 1432 [some (.ref sc), some (.ref kp), some (.ref (am 0)), some (.ref ou), some (.int (nI i)), x5, x6] [] w2 c2 k2) :
    Go G room_1 cL_law RL Y C Q 612 [some (.ref sc), some (.ref kp), some (.ref (am 0)), some (.ref ou), some (.int (nI i)), y5, y6] [] w c k := by
  obtain ⟨th, v, N', A', h3, hc, hbo⟩ := bo_copies hF hJ (xs (i + 1)) (xs (i + 2))
  refine g_aload1 dL_law_612 ?_
  refine g_aload0 dL_law_613 ?_
  refine g_iload4 dL_law_614 ?_
  refine g_iconst (v := 1) dL_law_616 (by decide) ?_
  refine g_iadd dL_law_617 ?_
  rw [show nI i + 1 = nI (i + 1) from nI_add i 1]
  refine g_sald dL_law_618 hs hsb (vp_in_nI (show i + 1 < Ln by omega) hLn) ?_
  rw [nI_clamp (by omega)]
  refine g_aload0 dL_law_619 ?_
  refine g_iload4 dL_law_620 ?_
  refine g_iconst (v := 2) dL_law_622 (by decide) ?_
  refine g_iadd dL_law_623 ?_
  rw [show nI i + 2 = nI (i + 2) from nI_add i 2]
  refine g_sald dL_law_624 hs hsb (vp_in_nI (show i + 2 < Ln by omega) hLn) ?_
  rw [nI_clamp (by omega)]
  refine g_aload3 dL_law_625 ?_
  refine g_callSW4 hc md_L_copies dL_law_626 ml_L_119 st_L_copies (RmOk.of (Nat.le_of_ble_eq_true rfl) (Nat.le_of_ble_eq_true rfl) (Nat.le_of_ble_eq_true rfl) (by (try dsimp only [room_1, rm_L_copies]); omega) (by (try dsimp only [room_1, rm_L_copies]); omega)) (kr_B (fun w1 hw1 => ?_)) kx_B
  have hm := hbo w1 hw1
  have hmz := hw1.mz hJ.2.1 hF.2.2.2.1 hF.2.2.2.2.1
  refine g_istore5 dL_law_629 ?_
  refine g_aload2 dL_law_631 ?_
  refine g_aload0 dL_law_632 ?_
  refine g_iload4 dL_law_633 ?_
  refine g_iconst (v := 1) dL_law_635 (by decide) ?_
  refine g_iadd dL_law_636 ?_
  rw [show nI i + 1 = nI (i + 1) from nI_add i 1]
  refine g_sald dL_law_637 hs hsb (vp_in_nI (show i + 1 < Ln by omega) hLn) ?_
  rw [nI_clamp (by omega)]
  refine g_aload0 dL_law_638 ?_
  refine g_iload4 dL_law_639 ?_
  refine g_iconst (v := 2) dL_law_641 (by decide) ?_
  refine g_iadd dL_law_642 ?_
  rw [show nI i + 2 = nI (i + 2) from nI_add i 2]
  refine g_sald dL_law_643 hs hsb (vp_in_nI (show i + 2 < Ln by omega) hLn) ?_
  rw [nI_clamp (by omega)]
  refine g_callV2 kc7 hm md_X6_copies dL_law_644 ml_L_122 im_X6_copies se_X6_copies hmz.1 (RmOk.of (Nat.le_of_ble_eq_true rfl) (Nat.le_of_ble_eq_true rfl) (Nat.le_of_ble_eq_true rfl) (by (try dsimp only [room_1, rm_L_copies, rm_X6_copies]); omega) (by (try dsimp only [room_1, rm_L_copies, rm_X6_copies]); omega)) (kr_B (fun w1 hw1 => ?_)) kx_B
  obtain ⟨hJ2, ⟨f, hf1, hf2⟩, hfr⟩ := hw1
  refine g_istore6 dL_law_647 ?_
  refine g_aload2 dL_law_649 ?_
  refine g_callV0 kc7 (mt_thrown hJ2.2.1) md_X6_thrown dL_law_650 ml_L_93 im_X6_thrown se_X6_thrown hJ2.2.1.1 (RmOk.of (Nat.le_of_ble_eq_true rfl) (Nat.le_of_ble_eq_true rfl) (Nat.le_of_ble_eq_true rfl) (by (try dsimp only [room_1, rm_L_copies, rm_X6_copies, rm_X6_thrown]); omega) (by (try dsimp only [room_1, rm_L_copies, rm_X6_copies, rm_X6_thrown]); omega)) (kr_V ?_) kx_V
  refine g_iload5 dL_law_653 ?_
  refine g_icmp_eq_t (tgt := 660) dL_law_655 (by decide) rfl ?_
  refine g_iload5 dL_law_660 ?_
  refine g_if_ne (tgt := 677) dL_law_662 (by decide) (fun hth => ?_) (fun hth => ?_)
  · skip
    refine g_goto (tgt := 1432) dL_law_677 (by decide) ?_
    exact hk _ _ _ _ _ _ _ _ hJ2 (by dsimp only [rm_L_copies, rm_X6_copies, rm_X6_thrown]; omega) (by dsimp only [rm_L_copies, rm_X6_copies, rm_X6_thrown]; omega)
  · skip
    refine g_aload3 dL_law_665 ?_
    refine g_iconst (v := 0) dL_law_666 (by decide) ?_
    refine g_lald dL_law_667 hf1 (vp_in_nI (show 0 < 1 by decide) (by decide)) ?_
    rw [show f (0 : Int32).toNatClampNeg = v.toInt64 from hf2 (nI_z h3 hth)]
    refine g_iload6 dL_law_668 ?_
    refine g_i2l dL_law_670 ?_
    refine g_lcmp dL_law_671 ?_
    refine g_if_eq_t (tgt := 677) dL_law_672 (by decide) (lcmp_self _) ?_
    refine g_goto (tgt := 1432) dL_law_677 (by decide) ?_
    exact hk _ _ _ _ _ _ _ _ hJ2 (by dsimp only [rm_L_copies, rm_X6_copies, rm_X6_thrown]; omega) (by dsimp only [rm_L_copies, rm_X6_copies, rm_X6_thrown]; omega)

set_option maxRecDepth 100000 in
theorem la_account (hF : Fx G X am ou) (hJ : Jn G X kp am ou th0 N A w) (hs : va_X sc Ln xs C.2.2.1 C.2.2.1.heap) (hsb : sc < (gH G).size) (hLn : Ln < 2 ^ 31) (hi : i + 5 < Ln) (hc9 : c + 800 ≤ 601024) (hk9 : k + 8000 ≤ 7293034)
    (hk : ∀ w2 th N' A' c2 k2 x5 x6, Jn G X kp am ou th N' A' w2 → c2 ≤ c + 800 → k2 ≤ k + 8000 → Go G room_1 cL_law RL Y C Q 1432 [some (.ref sc), some (.ref kp), some (.ref (am 0)), some (.ref ou), some (.int (nI i)), x5, x6] [] w2 c2 k2) :
    Go G room_1 cL_law RL Y C Q 756 [some (.ref sc), some (.ref kp), some (.ref (am 0)), some (.ref ou), some (.int (nI i)), y5, y6] [] w c k := by
  obtain ⟨th, v, N', A', h3, hc, hbo⟩ := bo_account hF hJ (xs (i + 1))
  refine g_aload1 dL_law_756 ?_
  refine g_aload0 dL_law_757 ?_
  refine g_iload4 dL_law_758 ?_
  refine g_iconst (v := 1) dL_law_760 (by decide) ?_
  refine g_iadd dL_law_761 ?_
  rw [show nI i + 1 = nI (i + 1) from nI_add i 1]
  refine g_sald dL_law_762 hs hsb (vp_in_nI (show i + 1 < Ln by omega) hLn) ?_
  rw [nI_clamp (by omega)]
  refine g_aload3 dL_law_763 ?_
  refine g_callSW3 hc md_L_account dL_law_764 ml_L_130 st_L_account (RmOk.of (Nat.le_of_ble_eq_true rfl) (Nat.le_of_ble_eq_true rfl) (Nat.le_of_ble_eq_true rfl) (by (try dsimp only [room_1, rm_L_account]); omega) (by (try dsimp only [room_1, rm_L_account]); omega)) (kr_B (fun w1 hw1 => ?_)) kx_B
  have hm := hbo w1 hw1
  have hmz := hw1.mz hJ.2.1 hF.2.2.2.1 hF.2.2.2.2.1
  refine g_istore5 dL_law_767 ?_
  refine g_aload2 dL_law_769 ?_
  refine g_aload0 dL_law_770 ?_
  refine g_iload4 dL_law_771 ?_
  refine g_iconst (v := 1) dL_law_773 (by decide) ?_
  refine g_iadd dL_law_774 ?_
  rw [show nI i + 1 = nI (i + 1) from nI_add i 1]
  refine g_sald dL_law_775 hs hsb (vp_in_nI (show i + 1 < Ln by omega) hLn) ?_
  rw [nI_clamp (by omega)]
  refine g_callV1 kc7 hm md_X6_account dL_law_776 ml_L_132 im_X6_account se_X6_account hmz.1 (RmOk.of (Nat.le_of_ble_eq_true rfl) (Nat.le_of_ble_eq_true rfl) (Nat.le_of_ble_eq_true rfl) (by (try dsimp only [room_1, rm_L_account, rm_X6_account]); omega) (by (try dsimp only [room_1, rm_L_account, rm_X6_account]); omega)) (kr_B (fun w1 hw1 => ?_)) kx_B
  obtain ⟨hJ2, ⟨f, hf1, hf2⟩, hfr⟩ := hw1
  refine g_istore6 dL_law_779 ?_
  refine g_aload2 dL_law_781 ?_
  refine g_callV0 kc7 (mt_thrown hJ2.2.1) md_X6_thrown dL_law_782 ml_L_93 im_X6_thrown se_X6_thrown hJ2.2.1.1 (RmOk.of (Nat.le_of_ble_eq_true rfl) (Nat.le_of_ble_eq_true rfl) (Nat.le_of_ble_eq_true rfl) (by (try dsimp only [room_1, rm_L_account, rm_X6_account, rm_X6_thrown]); omega) (by (try dsimp only [room_1, rm_L_account, rm_X6_account, rm_X6_thrown]); omega)) (kr_V ?_) kx_V
  refine g_iload5 dL_law_785 ?_
  refine g_icmp_eq_t (tgt := 792) dL_law_787 (by decide) rfl ?_
  refine g_iload5 dL_law_792 ?_
  refine g_if_ne (tgt := 809) dL_law_794 (by decide) (fun hth => ?_) (fun hth => ?_)
  · skip
    refine g_goto (tgt := 1432) dL_law_809 (by decide) ?_
    exact hk _ _ _ _ _ _ _ _ hJ2 (by dsimp only [rm_L_account, rm_X6_account, rm_X6_thrown]; omega) (by dsimp only [rm_L_account, rm_X6_account, rm_X6_thrown]; omega)
  · skip
    refine g_aload3 dL_law_797 ?_
    refine g_iconst (v := 0) dL_law_798 (by decide) ?_
    refine g_lald dL_law_799 hf1 (vp_in_nI (show 0 < 1 by decide) (by decide)) ?_
    rw [show f (0 : Int32).toNatClampNeg = v.toInt64 from hf2 (nI_z h3 hth)]
    refine g_iload6 dL_law_800 ?_
    refine g_i2l dL_law_802 ?_
    refine g_lcmp dL_law_803 ?_
    refine g_if_eq_t (tgt := 809) dL_law_804 (by decide) (lcmp_self _) ?_
    refine g_goto (tgt := 1432) dL_law_809 (by decide) ?_
    exact hk _ _ _ _ _ _ _ _ hJ2 (by dsimp only [rm_L_account, rm_X6_account, rm_X6_thrown]; omega) (by dsimp only [rm_L_account, rm_X6_account, rm_X6_thrown]; omega)

set_option maxRecDepth 100000 in
theorem la_kind (hF : Fx G X am ou) (hJ : Jn G X kp am ou th0 N A w) (hs : va_X sc Ln xs C.2.2.1 C.2.2.1.heap) (hsb : sc < (gH G).size) (hLn : Ln < 2 ^ 31) (hi : i + 5 < Ln) (hc9 : c + 800 ≤ 601024) (hk9 : k + 8000 ≤ 7293034)
    (hk : ∀ w2 th N' A' c2 k2 x5 x6, Jn G X kp am ou th N' A' w2 → c2 ≤ c + 800 → k2 ≤ k + 8000 → Go G room_1 cL_law RL Y C Q 1432 [some (.ref sc), some (.ref kp), some (.ref (am 0)), some (.ref ou), some (.int (nI i)), x5, x6] [] w2 c2 k2) :
    Go G room_1 cL_law RL Y C Q 812 [some (.ref sc), some (.ref kp), some (.ref (am 0)), some (.ref ou), some (.int (nI i)), y5, y6] [] w c k := by
  obtain ⟨th, v, N', A', h3, hc, hbo⟩ := bo_kind hF hJ (xs (i + 1))
  refine g_aload1 dL_law_812 ?_
  refine g_aload0 dL_law_813 ?_
  refine g_iload4 dL_law_814 ?_
  refine g_iconst (v := 1) dL_law_816 (by decide) ?_
  refine g_iadd dL_law_817 ?_
  rw [show nI i + 1 = nI (i + 1) from nI_add i 1]
  refine g_sald dL_law_818 hs hsb (vp_in_nI (show i + 1 < Ln by omega) hLn) ?_
  rw [nI_clamp (by omega)]
  refine g_aload3 dL_law_819 ?_
  refine g_callSW3 hc md_L_kind dL_law_820 ml_L_133 st_L_kind (RmOk.of (Nat.le_of_ble_eq_true rfl) (Nat.le_of_ble_eq_true rfl) (Nat.le_of_ble_eq_true rfl) (by (try dsimp only [room_1, rm_L_kind]); omega) (by (try dsimp only [room_1, rm_L_kind]); omega)) (kr_B (fun w1 hw1 => ?_)) kx_B
  have hm := hbo w1 hw1
  have hmz := hw1.mz hJ.2.1 hF.2.2.2.1 hF.2.2.2.2.1
  refine g_istore5 dL_law_823 ?_
  refine g_aload2 dL_law_825 ?_
  refine g_aload0 dL_law_826 ?_
  refine g_iload4 dL_law_827 ?_
  refine g_iconst (v := 1) dL_law_829 (by decide) ?_
  refine g_iadd dL_law_830 ?_
  rw [show nI i + 1 = nI (i + 1) from nI_add i 1]
  refine g_sald dL_law_831 hs hsb (vp_in_nI (show i + 1 < Ln by omega) hLn) ?_
  rw [nI_clamp (by omega)]
  refine g_callV1 kc7 hm md_X6_kind dL_law_832 ml_L_135 im_X6_kind se_X6_kind hmz.1 (RmOk.of (Nat.le_of_ble_eq_true rfl) (Nat.le_of_ble_eq_true rfl) (Nat.le_of_ble_eq_true rfl) (by (try dsimp only [room_1, rm_L_kind, rm_X6_kind]); omega) (by (try dsimp only [room_1, rm_L_kind, rm_X6_kind]); omega)) (kr_B (fun w1 hw1 => ?_)) kx_B
  obtain ⟨hJ2, ⟨f, hf1, hf2⟩, hfr⟩ := hw1
  refine g_istore6 dL_law_835 ?_
  refine g_aload2 dL_law_837 ?_
  refine g_callV0 kc7 (mt_thrown hJ2.2.1) md_X6_thrown dL_law_838 ml_L_93 im_X6_thrown se_X6_thrown hJ2.2.1.1 (RmOk.of (Nat.le_of_ble_eq_true rfl) (Nat.le_of_ble_eq_true rfl) (Nat.le_of_ble_eq_true rfl) (by (try dsimp only [room_1, rm_L_kind, rm_X6_kind, rm_X6_thrown]); omega) (by (try dsimp only [room_1, rm_L_kind, rm_X6_kind, rm_X6_thrown]); omega)) (kr_V ?_) kx_V
  refine g_iload5 dL_law_841 ?_
  refine g_icmp_eq_t (tgt := 848) dL_law_843 (by decide) rfl ?_
  refine g_iload5 dL_law_848 ?_
  refine g_if_ne (tgt := 865) dL_law_850 (by decide) (fun hth => ?_) (fun hth => ?_)
  · skip
    refine g_goto (tgt := 1432) dL_law_865 (by decide) ?_
    exact hk _ _ _ _ _ _ _ _ hJ2 (by dsimp only [rm_L_kind, rm_X6_kind, rm_X6_thrown]; omega) (by dsimp only [rm_L_kind, rm_X6_kind, rm_X6_thrown]; omega)
  · skip
    refine g_aload3 dL_law_853 ?_
    refine g_iconst (v := 0) dL_law_854 (by decide) ?_
    refine g_lald dL_law_855 hf1 (vp_in_nI (show 0 < 1 by decide) (by decide)) ?_
    rw [show f (0 : Int32).toNatClampNeg = v.toInt64 from hf2 (nI_z h3 hth)]
    refine g_iload6 dL_law_856 ?_
    refine g_i2l dL_law_858 ?_
    refine g_lcmp dL_law_859 ?_
    refine g_if_eq_t (tgt := 865) dL_law_860 (by decide) (lcmp_self _) ?_
    refine g_goto (tgt := 1432) dL_law_865 (by decide) ?_
    exact hk _ _ _ _ _ _ _ _ hJ2 (by dsimp only [rm_L_kind, rm_X6_kind, rm_X6_thrown]; omega) (by dsimp only [rm_L_kind, rm_X6_kind, rm_X6_thrown]; omega)

set_option maxRecDepth 100000 in
theorem la_length (hF : Fx G X am ou) (hJ : Jn G X kp am ou th0 N A w) (hs : va_X sc Ln xs C.2.2.1 C.2.2.1.heap) (hsb : sc < (gH G).size) (hLn : Ln < 2 ^ 31) (hi : i + 5 < Ln) (hc9 : c + 800 ≤ 601024) (hk9 : k + 8000 ≤ 7293034)
    (hk : ∀ w2 th N' A' c2 k2 x5 x6, Jn G X kp am ou th N' A' w2 → c2 ≤ c + 800 → k2 ≤ k + 8000 → Go G room_1 cL_law RL Y C Q 1432 [some (.ref sc), some (.ref kp), some (.ref (am 0)), some (.ref ou), some (.int (nI i)), x5, x6] [] w2 c2 k2) :
    Go G room_1 cL_law RL Y C Q 868 [some (.ref sc), some (.ref kp), some (.ref (am 0)), some (.ref ou), some (.int (nI i)), y5, y6] [] w c k := by
  obtain ⟨th, v, N', A', h3, hc, hbo⟩ := bo_length hF hJ (xs (i + 1))
  refine g_aload1 dL_law_868 ?_
  refine g_aload0 dL_law_869 ?_
  refine g_iload4 dL_law_870 ?_
  refine g_iconst (v := 1) dL_law_872 (by decide) ?_
  refine g_iadd dL_law_873 ?_
  rw [show nI i + 1 = nI (i + 1) from nI_add i 1]
  refine g_sald dL_law_874 hs hsb (vp_in_nI (show i + 1 < Ln by omega) hLn) ?_
  rw [nI_clamp (by omega)]
  refine g_aload3 dL_law_875 ?_
  refine g_callSW3 hc md_L_length dL_law_876 ml_L_136 st_L_length (RmOk.of (Nat.le_of_ble_eq_true rfl) (Nat.le_of_ble_eq_true rfl) (Nat.le_of_ble_eq_true rfl) (by (try dsimp only [room_1, rm_L_length]); omega) (by (try dsimp only [room_1, rm_L_length]); omega)) (kr_B (fun w1 hw1 => ?_)) kx_B
  have hm := hbo w1 hw1
  have hmz := hw1.mz hJ.2.1 hF.2.2.2.1 hF.2.2.2.2.1
  refine g_istore5 dL_law_879 ?_
  refine g_aload2 dL_law_881 ?_
  refine g_aload0 dL_law_882 ?_
  refine g_iload4 dL_law_883 ?_
  refine g_iconst (v := 1) dL_law_885 (by decide) ?_
  refine g_iadd dL_law_886 ?_
  rw [show nI i + 1 = nI (i + 1) from nI_add i 1]
  refine g_sald dL_law_887 hs hsb (vp_in_nI (show i + 1 < Ln by omega) hLn) ?_
  rw [nI_clamp (by omega)]
  refine g_callV1 kc7 hm md_X6_length dL_law_888 ml_L_138 im_X6_length se_X6_length hmz.1 (RmOk.of (Nat.le_of_ble_eq_true rfl) (Nat.le_of_ble_eq_true rfl) (Nat.le_of_ble_eq_true rfl) (by (try dsimp only [room_1, rm_L_length, rm_X6_length]); omega) (by (try dsimp only [room_1, rm_L_length, rm_X6_length]); omega)) (kr_B (fun w1 hw1 => ?_)) kx_B
  obtain ⟨hJ2, ⟨f, hf1, hf2⟩, hfr⟩ := hw1
  refine g_istore6 dL_law_891 ?_
  refine g_aload2 dL_law_893 ?_
  refine g_callV0 kc7 (mt_thrown hJ2.2.1) md_X6_thrown dL_law_894 ml_L_93 im_X6_thrown se_X6_thrown hJ2.2.1.1 (RmOk.of (Nat.le_of_ble_eq_true rfl) (Nat.le_of_ble_eq_true rfl) (Nat.le_of_ble_eq_true rfl) (by (try dsimp only [room_1, rm_L_length, rm_X6_length, rm_X6_thrown]); omega) (by (try dsimp only [room_1, rm_L_length, rm_X6_length, rm_X6_thrown]); omega)) (kr_V ?_) kx_V
  refine g_iload5 dL_law_897 ?_
  refine g_icmp_eq_t (tgt := 904) dL_law_899 (by decide) rfl ?_
  refine g_iload5 dL_law_904 ?_
  refine g_if_ne (tgt := 921) dL_law_906 (by decide) (fun hth => ?_) (fun hth => ?_)
  · skip
    refine g_goto (tgt := 1432) dL_law_921 (by decide) ?_
    exact hk _ _ _ _ _ _ _ _ hJ2 (by dsimp only [rm_L_length, rm_X6_length, rm_X6_thrown]; omega) (by dsimp only [rm_L_length, rm_X6_length, rm_X6_thrown]; omega)
  · skip
    refine g_aload3 dL_law_909 ?_
    refine g_iconst (v := 0) dL_law_910 (by decide) ?_
    refine g_lald dL_law_911 hf1 (vp_in_nI (show 0 < 1 by decide) (by decide)) ?_
    rw [show f (0 : Int32).toNatClampNeg = v.toInt64 from hf2 (nI_z h3 hth)]
    refine g_iload6 dL_law_912 ?_
    refine g_i2l dL_law_914 ?_
    refine g_lcmp dL_law_915 ?_
    refine g_if_eq_t (tgt := 921) dL_law_916 (by decide) (lcmp_self _) ?_
    refine g_goto (tgt := 1432) dL_law_921 (by decide) ?_
    exact hk _ _ _ _ _ _ _ _ hJ2 (by dsimp only [rm_L_length, rm_X6_length, rm_X6_thrown]; omega) (by dsimp only [rm_L_length, rm_X6_length, rm_X6_thrown]; omega)

set_option maxRecDepth 100000 in
theorem la_found (hF : Fx G X am ou) (hJ : Jn G X kp am ou th0 N A w) (hs : va_X sc Ln xs C.2.2.1 C.2.2.1.heap) (hsb : sc < (gH G).size) (hLn : Ln < 2 ^ 31) (hi : i + 5 < Ln) (hc9 : c + 800 ≤ 601024) (hk9 : k + 8000 ≤ 7293034)
    (hk : ∀ w2 th N' A' c2 k2 x5 x6, Jn G X kp am ou th N' A' w2 → c2 ≤ c + 800 → k2 ≤ k + 8000 → Go G room_1 cL_law RL Y C Q 1432 [some (.ref sc), some (.ref kp), some (.ref (am 0)), some (.ref ou), some (.int (nI i)), x5, x6] [] w2 c2 k2) :
    Go G room_1 cL_law RL Y C Q 924 [some (.ref sc), some (.ref kp), some (.ref (am 0)), some (.ref ou), some (.int (nI i)), y5, y6] [] w c k := by
  obtain ⟨th, v, N', A', h3, hc, hbo⟩ := bo_found hF hJ (xs (i + 1)) (xs (i + 2)) (xs (i + 3)) (xs (i + 4)) (xs (i + 5))
  refine g_aload1 dL_law_924 ?_
  refine g_aload0 dL_law_925 ?_
  refine g_iload4 dL_law_926 ?_
  refine g_iconst (v := 1) dL_law_928 (by decide) ?_
  refine g_iadd dL_law_929 ?_
  rw [show nI i + 1 = nI (i + 1) from nI_add i 1]
  refine g_sald dL_law_930 hs hsb (vp_in_nI (show i + 1 < Ln by omega) hLn) ?_
  rw [nI_clamp (by omega)]
  refine g_aload0 dL_law_931 ?_
  refine g_iload4 dL_law_932 ?_
  refine g_iconst (v := 2) dL_law_934 (by decide) ?_
  refine g_iadd dL_law_935 ?_
  rw [show nI i + 2 = nI (i + 2) from nI_add i 2]
  refine g_sald dL_law_936 hs hsb (vp_in_nI (show i + 2 < Ln by omega) hLn) ?_
  rw [nI_clamp (by omega)]
  refine g_aload0 dL_law_937 ?_
  refine g_iload4 dL_law_938 ?_
  refine g_iconst (v := 3) dL_law_940 (by decide) ?_
  refine g_iadd dL_law_941 ?_
  rw [show nI i + 3 = nI (i + 3) from nI_add i 3]
  refine g_sald dL_law_942 hs hsb (vp_in_nI (show i + 3 < Ln by omega) hLn) ?_
  rw [nI_clamp (by omega)]
  refine g_aload0 dL_law_943 ?_
  refine g_iload4 dL_law_944 ?_
  refine g_iconst (v := 4) dL_law_946 (by decide) ?_
  refine g_iadd dL_law_947 ?_
  rw [show nI i + 4 = nI (i + 4) from nI_add i 4]
  refine g_sald dL_law_948 hs hsb (vp_in_nI (show i + 4 < Ln by omega) hLn) ?_
  rw [nI_clamp (by omega)]
  refine g_aload0 dL_law_949 ?_
  refine g_iload4 dL_law_950 ?_
  refine g_iconst (v := 5) dL_law_952 (by decide) ?_
  refine g_iadd dL_law_953 ?_
  rw [show nI i + 5 = nI (i + 5) from nI_add i 5]
  refine g_sald dL_law_954 hs hsb (vp_in_nI (show i + 5 < Ln by omega) hLn) ?_
  rw [nI_clamp (by omega)]
  refine g_aload3 dL_law_955 ?_
  refine g_callSW7 hc md_L_found dL_law_956 ml_L_139 st_L_found (RmOk.of (Nat.le_of_ble_eq_true rfl) (Nat.le_of_ble_eq_true rfl) (Nat.le_of_ble_eq_true rfl) (by (try dsimp only [room_1, rm_L_found]); omega) (by (try dsimp only [room_1, rm_L_found]); omega)) (kr_B (fun w1 hw1 => ?_)) kx_B
  have hm := hbo w1 hw1
  have hmz := hw1.mz hJ.2.1 hF.2.2.2.1 hF.2.2.2.2.1
  refine g_istore5 dL_law_959 ?_
  refine g_aload2 dL_law_961 ?_
  refine g_aload0 dL_law_962 ?_
  refine g_iload4 dL_law_963 ?_
  refine g_iconst (v := 1) dL_law_965 (by decide) ?_
  refine g_iadd dL_law_966 ?_
  rw [show nI i + 1 = nI (i + 1) from nI_add i 1]
  refine g_sald dL_law_967 hs hsb (vp_in_nI (show i + 1 < Ln by omega) hLn) ?_
  rw [nI_clamp (by omega)]
  refine g_aload0 dL_law_968 ?_
  refine g_iload4 dL_law_969 ?_
  refine g_iconst (v := 2) dL_law_971 (by decide) ?_
  refine g_iadd dL_law_972 ?_
  rw [show nI i + 2 = nI (i + 2) from nI_add i 2]
  refine g_sald dL_law_973 hs hsb (vp_in_nI (show i + 2 < Ln by omega) hLn) ?_
  rw [nI_clamp (by omega)]
  refine g_aload0 dL_law_974 ?_
  refine g_iload4 dL_law_975 ?_
  refine g_iconst (v := 3) dL_law_977 (by decide) ?_
  refine g_iadd dL_law_978 ?_
  rw [show nI i + 3 = nI (i + 3) from nI_add i 3]
  refine g_sald dL_law_979 hs hsb (vp_in_nI (show i + 3 < Ln by omega) hLn) ?_
  rw [nI_clamp (by omega)]
  refine g_aload0 dL_law_980 ?_
  refine g_iload4 dL_law_981 ?_
  refine g_iconst (v := 4) dL_law_983 (by decide) ?_
  refine g_iadd dL_law_984 ?_
  rw [show nI i + 4 = nI (i + 4) from nI_add i 4]
  refine g_sald dL_law_985 hs hsb (vp_in_nI (show i + 4 < Ln by omega) hLn) ?_
  rw [nI_clamp (by omega)]
  refine g_aload0 dL_law_986 ?_
  refine g_iload4 dL_law_987 ?_
  refine g_iconst (v := 5) dL_law_989 (by decide) ?_
  refine g_iadd dL_law_990 ?_
  rw [show nI i + 5 = nI (i + 5) from nI_add i 5]
  refine g_sald dL_law_991 hs hsb (vp_in_nI (show i + 5 < Ln by omega) hLn) ?_
  rw [nI_clamp (by omega)]
  refine g_callV5 kc7 hm md_X6_found dL_law_992 ml_L_142 im_X6_found se_X6_found hmz.1 (RmOk.of (Nat.le_of_ble_eq_true rfl) (Nat.le_of_ble_eq_true rfl) (Nat.le_of_ble_eq_true rfl) (by (try dsimp only [room_1, rm_L_found, rm_X6_found]); omega) (by (try dsimp only [room_1, rm_L_found, rm_X6_found]); omega)) (kr_B (fun w1 hw1 => ?_)) kx_B
  obtain ⟨hJ2, ⟨f, hf1, hf2⟩, hfr⟩ := hw1
  refine g_istore6 dL_law_995 ?_
  refine g_aload2 dL_law_997 ?_
  refine g_callV0 kc7 (mt_thrown hJ2.2.1) md_X6_thrown dL_law_998 ml_L_93 im_X6_thrown se_X6_thrown hJ2.2.1.1 (RmOk.of (Nat.le_of_ble_eq_true rfl) (Nat.le_of_ble_eq_true rfl) (Nat.le_of_ble_eq_true rfl) (by (try dsimp only [room_1, rm_L_found, rm_X6_found, rm_X6_thrown]); omega) (by (try dsimp only [room_1, rm_L_found, rm_X6_found, rm_X6_thrown]); omega)) (kr_V ?_) kx_V
  refine g_iload5 dL_law_1001 ?_
  refine g_icmp_eq_t (tgt := 1008) dL_law_1003 (by decide) rfl ?_
  refine g_iload5 dL_law_1008 ?_
  refine g_if_ne (tgt := 1025) dL_law_1010 (by decide) (fun hth => ?_) (fun hth => ?_)
  · skip
    refine g_goto (tgt := 1432) dL_law_1025 (by decide) ?_
    exact hk _ _ _ _ _ _ _ _ hJ2 (by dsimp only [rm_L_found, rm_X6_found, rm_X6_thrown]; omega) (by dsimp only [rm_L_found, rm_X6_found, rm_X6_thrown]; omega)
  · skip
    refine g_aload3 dL_law_1013 ?_
    refine g_iconst (v := 0) dL_law_1014 (by decide) ?_
    refine g_lald dL_law_1015 hf1 (vp_in_nI (show 0 < 1 by decide) (by decide)) ?_
    rw [show f (0 : Int32).toNatClampNeg = v.toInt64 from hf2 (nI_z h3 hth)]
    refine g_iload6 dL_law_1016 ?_
    refine g_i2l dL_law_1018 ?_
    refine g_lcmp dL_law_1019 ?_
    refine g_if_eq_t (tgt := 1025) dL_law_1020 (by decide) (lcmp_self _) ?_
    refine g_goto (tgt := 1432) dL_law_1025 (by decide) ?_
    exact hk _ _ _ _ _ _ _ _ hJ2 (by dsimp only [rm_L_found, rm_X6_found, rm_X6_thrown]; omega) (by dsimp only [rm_L_found, rm_X6_found, rm_X6_thrown]; omega)

set_option maxRecDepth 100000 in
theorem la_read (hF : Fx G X am ou) (hJ : Jn G X kp am ou th0 N A w) (hs : va_X sc Ln xs C.2.2.1 C.2.2.1.heap) (hsb : sc < (gH G).size) (hLn : Ln < 2 ^ 31) (hi : i + 5 < Ln) (hc9 : c + 800 ≤ 601024) (hk9 : k + 8000 ≤ 7293034)
    (hk : ∀ w2 th N' A' c2 k2 x5 x6, Jn G X kp am ou th N' A' w2 → c2 ≤ c + 800 → k2 ≤ k + 8000 → Go G room_1 cL_law RL Y C Q 1432 [some (.ref sc), some (.ref kp), some (.ref (am 0)), some (.ref ou), some (.int (nI i)), x5, x6] [] w2 c2 k2) :
    Go G room_1 cL_law RL Y C Q 1028 [some (.ref sc), some (.ref kp), some (.ref (am 0)), some (.ref ou), some (.int (nI i)), y5, y6] [] w c k := by
  obtain ⟨th, v, N', A', h3, hc, hbo⟩ := bo_read hF hJ (xs (i + 1)) (xs (i + 2)) (xs (i + 3)) (xs (i + 4))
  refine g_aload1 dL_law_1028 ?_
  refine g_aload0 dL_law_1029 ?_
  refine g_iload4 dL_law_1030 ?_
  refine g_iconst (v := 1) dL_law_1032 (by decide) ?_
  refine g_iadd dL_law_1033 ?_
  rw [show nI i + 1 = nI (i + 1) from nI_add i 1]
  refine g_sald dL_law_1034 hs hsb (vp_in_nI (show i + 1 < Ln by omega) hLn) ?_
  rw [nI_clamp (by omega)]
  refine g_aload0 dL_law_1035 ?_
  refine g_iload4 dL_law_1036 ?_
  refine g_iconst (v := 2) dL_law_1038 (by decide) ?_
  refine g_iadd dL_law_1039 ?_
  rw [show nI i + 2 = nI (i + 2) from nI_add i 2]
  refine g_sald dL_law_1040 hs hsb (vp_in_nI (show i + 2 < Ln by omega) hLn) ?_
  rw [nI_clamp (by omega)]
  refine g_aload0 dL_law_1041 ?_
  refine g_iload4 dL_law_1042 ?_
  refine g_iconst (v := 3) dL_law_1044 (by decide) ?_
  refine g_iadd dL_law_1045 ?_
  rw [show nI i + 3 = nI (i + 3) from nI_add i 3]
  refine g_sald dL_law_1046 hs hsb (vp_in_nI (show i + 3 < Ln by omega) hLn) ?_
  rw [nI_clamp (by omega)]
  refine g_aload0 dL_law_1047 ?_
  refine g_iload4 dL_law_1048 ?_
  refine g_iconst (v := 4) dL_law_1050 (by decide) ?_
  refine g_iadd dL_law_1051 ?_
  rw [show nI i + 4 = nI (i + 4) from nI_add i 4]
  refine g_sald dL_law_1052 hs hsb (vp_in_nI (show i + 4 < Ln by omega) hLn) ?_
  rw [nI_clamp (by omega)]
  refine g_aload3 dL_law_1053 ?_
  refine g_callSW6 hc md_L_read dL_law_1054 ml_L_143 st_L_read (RmOk.of (Nat.le_of_ble_eq_true rfl) (Nat.le_of_ble_eq_true rfl) (Nat.le_of_ble_eq_true rfl) (by (try dsimp only [room_1, rm_L_read]); omega) (by (try dsimp only [room_1, rm_L_read]); omega)) (kr_B (fun w1 hw1 => ?_)) kx_B
  have hm := hbo w1 hw1
  have hmz := hw1.mz hJ.2.1 hF.2.2.2.1 hF.2.2.2.2.1
  refine g_istore5 dL_law_1057 ?_
  refine g_aload2 dL_law_1059 ?_
  refine g_aload0 dL_law_1060 ?_
  refine g_iload4 dL_law_1061 ?_
  refine g_iconst (v := 1) dL_law_1063 (by decide) ?_
  refine g_iadd dL_law_1064 ?_
  rw [show nI i + 1 = nI (i + 1) from nI_add i 1]
  refine g_sald dL_law_1065 hs hsb (vp_in_nI (show i + 1 < Ln by omega) hLn) ?_
  rw [nI_clamp (by omega)]
  refine g_aload0 dL_law_1066 ?_
  refine g_iload4 dL_law_1067 ?_
  refine g_iconst (v := 2) dL_law_1069 (by decide) ?_
  refine g_iadd dL_law_1070 ?_
  rw [show nI i + 2 = nI (i + 2) from nI_add i 2]
  refine g_sald dL_law_1071 hs hsb (vp_in_nI (show i + 2 < Ln by omega) hLn) ?_
  rw [nI_clamp (by omega)]
  refine g_aload0 dL_law_1072 ?_
  refine g_iload4 dL_law_1073 ?_
  refine g_iconst (v := 3) dL_law_1075 (by decide) ?_
  refine g_iadd dL_law_1076 ?_
  rw [show nI i + 3 = nI (i + 3) from nI_add i 3]
  refine g_sald dL_law_1077 hs hsb (vp_in_nI (show i + 3 < Ln by omega) hLn) ?_
  rw [nI_clamp (by omega)]
  refine g_aload0 dL_law_1078 ?_
  refine g_iload4 dL_law_1079 ?_
  refine g_iconst (v := 4) dL_law_1081 (by decide) ?_
  refine g_iadd dL_law_1082 ?_
  rw [show nI i + 4 = nI (i + 4) from nI_add i 4]
  refine g_sald dL_law_1083 hs hsb (vp_in_nI (show i + 4 < Ln by omega) hLn) ?_
  rw [nI_clamp (by omega)]
  refine g_callV4 kc7 hm md_X6_read dL_law_1084 ml_L_146 im_X6_read se_X6_read hmz.1 (RmOk.of (Nat.le_of_ble_eq_true rfl) (Nat.le_of_ble_eq_true rfl) (Nat.le_of_ble_eq_true rfl) (by (try dsimp only [room_1, rm_L_read, rm_X6_read]); omega) (by (try dsimp only [room_1, rm_L_read, rm_X6_read]); omega)) (kr_B (fun w1 hw1 => ?_)) kx_B
  obtain ⟨hJ2, ⟨f, hf1, hf2⟩, hfr⟩ := hw1
  refine g_istore6 dL_law_1087 ?_
  refine g_aload2 dL_law_1089 ?_
  refine g_callV0 kc7 (mt_thrown hJ2.2.1) md_X6_thrown dL_law_1090 ml_L_93 im_X6_thrown se_X6_thrown hJ2.2.1.1 (RmOk.of (Nat.le_of_ble_eq_true rfl) (Nat.le_of_ble_eq_true rfl) (Nat.le_of_ble_eq_true rfl) (by (try dsimp only [room_1, rm_L_read, rm_X6_read, rm_X6_thrown]); omega) (by (try dsimp only [room_1, rm_L_read, rm_X6_read, rm_X6_thrown]); omega)) (kr_V ?_) kx_V
  refine g_iload5 dL_law_1093 ?_
  refine g_icmp_eq_t (tgt := 1100) dL_law_1095 (by decide) rfl ?_
  refine g_iload5 dL_law_1100 ?_
  refine g_if_ne (tgt := 1117) dL_law_1102 (by decide) (fun hth => ?_) (fun hth => ?_)
  · skip
    refine g_goto (tgt := 1432) dL_law_1117 (by decide) ?_
    exact hk _ _ _ _ _ _ _ _ hJ2 (by dsimp only [rm_L_read, rm_X6_read, rm_X6_thrown]; omega) (by dsimp only [rm_L_read, rm_X6_read, rm_X6_thrown]; omega)
  · skip
    refine g_aload3 dL_law_1105 ?_
    refine g_iconst (v := 0) dL_law_1106 (by decide) ?_
    refine g_lald dL_law_1107 hf1 (vp_in_nI (show 0 < 1 by decide) (by decide)) ?_
    rw [show f (0 : Int32).toNatClampNeg = v.toInt64 from hf2 (nI_z h3 hth)]
    refine g_iload6 dL_law_1108 ?_
    refine g_i2l dL_law_1110 ?_
    refine g_lcmp dL_law_1111 ?_
    refine g_if_eq_t (tgt := 1117) dL_law_1112 (by decide) (lcmp_self _) ?_
    refine g_goto (tgt := 1432) dL_law_1117 (by decide) ?_
    exact hk _ _ _ _ _ _ _ _ hJ2 (by dsimp only [rm_L_read, rm_X6_read, rm_X6_thrown]; omega) (by dsimp only [rm_L_read, rm_X6_read, rm_X6_thrown]; omega)

set_option maxRecDepth 100000 in
theorem la_span (hF : Fx G X am ou) (hJ : Jn G X kp am ou th0 N A w) (hs : va_X sc Ln xs C.2.2.1 C.2.2.1.heap) (hsb : sc < (gH G).size) (hLn : Ln < 2 ^ 31) (hi : i + 5 < Ln) (hc9 : c + 800 ≤ 601024) (hk9 : k + 8000 ≤ 7293034)
    (hk : ∀ w2 th N' A' c2 k2 x5 x6, Jn G X kp am ou th N' A' w2 → c2 ≤ c + 800 → k2 ≤ k + 8000 → Go G room_1 cL_law RL Y C Q 1432 [some (.ref sc), some (.ref kp), some (.ref (am 0)), some (.ref ou), some (.int (nI i)), x5, x6] [] w2 c2 k2) :
    Go G room_1 cL_law RL Y C Q 1192 [some (.ref sc), some (.ref kp), some (.ref (am 0)), some (.ref ou), some (.int (nI i)), y5, y6] [] w c k := by
  obtain ⟨th, v, N', A', h3, hc, hbo⟩ := bo_span hF hJ (xs (i + 1)) (xs (i + 2))
  refine g_aload1 dL_law_1192 ?_
  refine g_aload0 dL_law_1193 ?_
  refine g_iload4 dL_law_1194 ?_
  refine g_iconst (v := 1) dL_law_1196 (by decide) ?_
  refine g_iadd dL_law_1197 ?_
  rw [show nI i + 1 = nI (i + 1) from nI_add i 1]
  refine g_sald dL_law_1198 hs hsb (vp_in_nI (show i + 1 < Ln by omega) hLn) ?_
  rw [nI_clamp (by omega)]
  refine g_aload0 dL_law_1199 ?_
  refine g_iload4 dL_law_1200 ?_
  refine g_iconst (v := 2) dL_law_1202 (by decide) ?_
  refine g_iadd dL_law_1203 ?_
  rw [show nI i + 2 = nI (i + 2) from nI_add i 2]
  refine g_sald dL_law_1204 hs hsb (vp_in_nI (show i + 2 < Ln by omega) hLn) ?_
  rw [nI_clamp (by omega)]
  refine g_aload3 dL_law_1205 ?_
  refine g_callSW4 hc md_L_span dL_law_1206 ml_L_151 st_L_span (RmOk.of (Nat.le_of_ble_eq_true rfl) (Nat.le_of_ble_eq_true rfl) (Nat.le_of_ble_eq_true rfl) (by (try dsimp only [room_1, rm_L_span]); omega) (by (try dsimp only [room_1, rm_L_span]); omega)) (kr_B (fun w1 hw1 => ?_)) kx_B
  have hm := hbo w1 hw1
  have hmz := hw1.mz hJ.2.1 hF.2.2.2.1 hF.2.2.2.2.1
  refine g_istore5 dL_law_1209 ?_
  refine g_aload2 dL_law_1211 ?_
  refine g_aload0 dL_law_1212 ?_
  refine g_iload4 dL_law_1213 ?_
  refine g_iconst (v := 1) dL_law_1215 (by decide) ?_
  refine g_iadd dL_law_1216 ?_
  rw [show nI i + 1 = nI (i + 1) from nI_add i 1]
  refine g_sald dL_law_1217 hs hsb (vp_in_nI (show i + 1 < Ln by omega) hLn) ?_
  rw [nI_clamp (by omega)]
  refine g_aload0 dL_law_1218 ?_
  refine g_iload4 dL_law_1219 ?_
  refine g_iconst (v := 2) dL_law_1221 (by decide) ?_
  refine g_iadd dL_law_1222 ?_
  rw [show nI i + 2 = nI (i + 2) from nI_add i 2]
  refine g_sald dL_law_1223 hs hsb (vp_in_nI (show i + 2 < Ln by omega) hLn) ?_
  rw [nI_clamp (by omega)]
  refine g_callV2 kc7 hm md_X6_span dL_law_1224 ml_L_153 im_X6_span se_X6_span hmz.1 (RmOk.of (Nat.le_of_ble_eq_true rfl) (Nat.le_of_ble_eq_true rfl) (Nat.le_of_ble_eq_true rfl) (by (try dsimp only [room_1, rm_L_span, rm_X6_span]); omega) (by (try dsimp only [room_1, rm_L_span, rm_X6_span]); omega)) (kr_B (fun w1 hw1 => ?_)) kx_B
  obtain ⟨hJ2, ⟨f, hf1, hf2⟩, hfr⟩ := hw1
  refine g_istore6 dL_law_1227 ?_
  refine g_aload2 dL_law_1229 ?_
  refine g_callV0 kc7 (mt_thrown hJ2.2.1) md_X6_thrown dL_law_1230 ml_L_93 im_X6_thrown se_X6_thrown hJ2.2.1.1 (RmOk.of (Nat.le_of_ble_eq_true rfl) (Nat.le_of_ble_eq_true rfl) (Nat.le_of_ble_eq_true rfl) (by (try dsimp only [room_1, rm_L_span, rm_X6_span, rm_X6_thrown]); omega) (by (try dsimp only [room_1, rm_L_span, rm_X6_span, rm_X6_thrown]); omega)) (kr_V ?_) kx_V
  refine g_iload5 dL_law_1233 ?_
  refine g_icmp_eq_t (tgt := 1240) dL_law_1235 (by decide) rfl ?_
  refine g_iload5 dL_law_1240 ?_
  refine g_if_ne (tgt := 1257) dL_law_1242 (by decide) (fun hth => ?_) (fun hth => ?_)
  · skip
    refine g_goto (tgt := 1432) dL_law_1257 (by decide) ?_
    exact hk _ _ _ _ _ _ _ _ hJ2 (by dsimp only [rm_L_span, rm_X6_span, rm_X6_thrown]; omega) (by dsimp only [rm_L_span, rm_X6_span, rm_X6_thrown]; omega)
  · skip
    refine g_aload3 dL_law_1245 ?_
    refine g_iconst (v := 0) dL_law_1246 (by decide) ?_
    refine g_lald dL_law_1247 hf1 (vp_in_nI (show 0 < 1 by decide) (by decide)) ?_
    rw [show f (0 : Int32).toNatClampNeg = v.toInt64 from hf2 (nI_z h3 hth)]
    refine g_iload6 dL_law_1248 ?_
    refine g_i2l dL_law_1250 ?_
    refine g_lcmp dL_law_1251 ?_
    refine g_if_eq_t (tgt := 1257) dL_law_1252 (by decide) (lcmp_self _) ?_
    refine g_goto (tgt := 1432) dL_law_1257 (by decide) ?_
    exact hk _ _ _ _ _ _ _ _ hJ2 (by dsimp only [rm_L_span, rm_X6_span, rm_X6_thrown]; omega) (by dsimp only [rm_L_span, rm_X6_span, rm_X6_thrown]; omega)

set_option maxRecDepth 100000 in
theorem la_bundle (hF : Fx G X am ou) (hJ : Jn G X kp am ou th0 N A w) (hs : va_X sc Ln xs C.2.2.1 C.2.2.1.heap) (hsb : sc < (gH G).size) (hLn : Ln < 2 ^ 31) (hi : i + 5 < Ln) (hc9 : c + 800 ≤ 601024) (hk9 : k + 8000 ≤ 7293034)
    (hk : ∀ w2 th N' A' c2 k2 x5 x6, Jn G X kp am ou th N' A' w2 → c2 ≤ c + 800 → k2 ≤ k + 8000 → Go G room_1 cL_law RL Y C Q 1432 [some (.ref sc), some (.ref kp), some (.ref (am 0)), some (.ref ou), some (.int (nI i)), x5, x6] [] w2 c2 k2) :
    Go G room_1 cL_law RL Y C Q 1364 [some (.ref sc), some (.ref kp), some (.ref (am 0)), some (.ref ou), some (.int (nI i)), y5, y6] [] w c k := by
  obtain ⟨th, v, N', A', h3, hc, hbo⟩ := bo_bundle hF hJ (xs (i + 1)) (xs (i + 2))
  refine g_aload1 dL_law_1364 ?_
  refine g_aload0 dL_law_1365 ?_
  refine g_iload4 dL_law_1366 ?_
  refine g_iconst (v := 1) dL_law_1368 (by decide) ?_
  refine g_iadd dL_law_1369 ?_
  rw [show nI i + 1 = nI (i + 1) from nI_add i 1]
  refine g_sald dL_law_1370 hs hsb (vp_in_nI (show i + 1 < Ln by omega) hLn) ?_
  rw [nI_clamp (by omega)]
  refine g_aload0 dL_law_1371 ?_
  refine g_iload4 dL_law_1372 ?_
  refine g_iconst (v := 2) dL_law_1374 (by decide) ?_
  refine g_iadd dL_law_1375 ?_
  rw [show nI i + 2 = nI (i + 2) from nI_add i 2]
  refine g_sald dL_law_1376 hs hsb (vp_in_nI (show i + 2 < Ln by omega) hLn) ?_
  rw [nI_clamp (by omega)]
  refine g_aload3 dL_law_1377 ?_
  refine g_callSW4 hc md_L_bundle dL_law_1378 ml_L_162 st_L_bundle (RmOk.of (Nat.le_of_ble_eq_true rfl) (Nat.le_of_ble_eq_true rfl) (Nat.le_of_ble_eq_true rfl) (by (try dsimp only [room_1, rm_L_bundle]); omega) (by (try dsimp only [room_1, rm_L_bundle]); omega)) (kr_B (fun w1 hw1 => ?_)) kx_B
  have hm := hbo w1 hw1
  have hmz := hw1.mz hJ.2.1 hF.2.2.2.1 hF.2.2.2.2.1
  refine g_istore5 dL_law_1381 ?_
  refine g_aload2 dL_law_1383 ?_
  refine g_aload0 dL_law_1384 ?_
  refine g_iload4 dL_law_1385 ?_
  refine g_iconst (v := 1) dL_law_1387 (by decide) ?_
  refine g_iadd dL_law_1388 ?_
  rw [show nI i + 1 = nI (i + 1) from nI_add i 1]
  refine g_sald dL_law_1389 hs hsb (vp_in_nI (show i + 1 < Ln by omega) hLn) ?_
  rw [nI_clamp (by omega)]
  refine g_aload0 dL_law_1390 ?_
  refine g_iload4 dL_law_1391 ?_
  refine g_iconst (v := 2) dL_law_1393 (by decide) ?_
  refine g_iadd dL_law_1394 ?_
  rw [show nI i + 2 = nI (i + 2) from nI_add i 2]
  refine g_sald dL_law_1395 hs hsb (vp_in_nI (show i + 2 < Ln by omega) hLn) ?_
  rw [nI_clamp (by omega)]
  refine g_callV2 kc7 hm md_X6_bundle dL_law_1396 ml_L_164 im_X6_bundle se_X6_bundle hmz.1 (RmOk.of (Nat.le_of_ble_eq_true rfl) (Nat.le_of_ble_eq_true rfl) (Nat.le_of_ble_eq_true rfl) (by (try dsimp only [room_1, rm_L_bundle, rm_X6_bundle]); omega) (by (try dsimp only [room_1, rm_L_bundle, rm_X6_bundle]); omega)) (kr_B (fun w1 hw1 => ?_)) kx_B
  obtain ⟨hJ2, ⟨f, hf1, hf2⟩, hfr⟩ := hw1
  refine g_istore6 dL_law_1399 ?_
  refine g_aload2 dL_law_1401 ?_
  refine g_callV0 kc7 (mt_thrown hJ2.2.1) md_X6_thrown dL_law_1402 ml_L_93 im_X6_thrown se_X6_thrown hJ2.2.1.1 (RmOk.of (Nat.le_of_ble_eq_true rfl) (Nat.le_of_ble_eq_true rfl) (Nat.le_of_ble_eq_true rfl) (by (try dsimp only [room_1, rm_L_bundle, rm_X6_bundle, rm_X6_thrown]); omega) (by (try dsimp only [room_1, rm_L_bundle, rm_X6_bundle, rm_X6_thrown]); omega)) (kr_V ?_) kx_V
  refine g_iload5 dL_law_1405 ?_
  refine g_icmp_eq_t (tgt := 1412) dL_law_1407 (by decide) rfl ?_
  refine g_iload5 dL_law_1412 ?_
  refine g_if_ne (tgt := 1429) dL_law_1414 (by decide) (fun hth => ?_) (fun hth => ?_)
  · skip
    refine g_goto (tgt := 1432) dL_law_1429 (by decide) ?_
    exact hk _ _ _ _ _ _ _ _ hJ2 (by dsimp only [rm_L_bundle, rm_X6_bundle, rm_X6_thrown]; omega) (by dsimp only [rm_L_bundle, rm_X6_bundle, rm_X6_thrown]; omega)
  · skip
    refine g_aload3 dL_law_1417 ?_
    refine g_iconst (v := 0) dL_law_1418 (by decide) ?_
    refine g_lald dL_law_1419 hf1 (vp_in_nI (show 0 < 1 by decide) (by decide)) ?_
    rw [show f (0 : Int32).toNatClampNeg = v.toInt64 from hf2 (nI_z h3 hth)]
    refine g_iload6 dL_law_1420 ?_
    refine g_i2l dL_law_1422 ?_
    refine g_lcmp dL_law_1423 ?_
    refine g_if_eq_t (tgt := 1429) dL_law_1424 (by decide) (lcmp_self _) ?_
    refine g_goto (tgt := 1432) dL_law_1429 (by decide) ?_
    exact hk _ _ _ _ _ _ _ _ hJ2 (by dsimp only [rm_L_bundle, rm_X6_bundle, rm_X6_thrown]; omega) (by dsimp only [rm_L_bundle, rm_X6_bundle, rm_X6_thrown]; omega)

set_option maxRecDepth 100000 in
theorem la_isThere (hF : Fx G X am ou) (hJ : Jn G X kp am ou th0 N A w) (hs : va_X sc Ln xs C.2.2.1 C.2.2.1.heap) (hsb : sc < (gH G).size) (hLn : Ln < 2 ^ 31) (hi : i + 5 < Ln) (hc9 : c + 800 ≤ 601024) (hk9 : k + 8000 ≤ 7293034)
    (hk : ∀ w2 th N' A' c2 k2 x5 x6, Jn G X kp am ou th N' A' w2 → c2 ≤ c + 800 → k2 ≤ k + 8000 → Go G room_1 cL_law RL Y C Q 1432 [some (.ref sc), some (.ref kp), some (.ref (am 0)), some (.ref ou), some (.int (nI i)), x5, x6] [] w2 c2 k2) :
    Go G room_1 cL_law RL Y C Q 693 [some (.ref sc), some (.ref kp), some (.ref (am 0)), some (.ref ou), some (.int (nI i)), y5, y6] [] w c k := by
  obtain ⟨th, v, N', A', h3, hc, hbo⟩ := bo_isThere hF hJ (xs (i + 1))
  refine g_aload1 dL_law_693 ?_
  refine g_aload0 dL_law_694 ?_
  refine g_iload4 dL_law_695 ?_
  refine g_iconst (v := 1) dL_law_697 (by decide) ?_
  refine g_iadd dL_law_698 ?_
  rw [show nI i + 1 = nI (i + 1) from nI_add i 1]
  refine g_sald dL_law_699 hs hsb (vp_in_nI (show i + 1 < Ln by omega) hLn) ?_
  rw [nI_clamp (by omega)]
  refine g_aload3 dL_law_700 ?_
  refine g_callSW3 hc md_L_isThere dL_law_701 ml_L_127 st_L_isThere (RmOk.of (Nat.le_of_ble_eq_true rfl) (Nat.le_of_ble_eq_true rfl) (Nat.le_of_ble_eq_true rfl) (by (try dsimp only [room_1, rm_L_isThere]); omega) (by (try dsimp only [room_1, rm_L_isThere]); omega)) (kr_B (fun w1 hw1 => ?_)) kx_B
  have hm := hbo w1 hw1
  have hmz := hw1.mz hJ.2.1 hF.2.2.2.1 hF.2.2.2.2.1
  refine g_istore5 dL_law_704 ?_
  refine g_aload2 dL_law_706 ?_
  refine g_aload0 dL_law_707 ?_
  refine g_iload4 dL_law_708 ?_
  refine g_iconst (v := 1) dL_law_710 (by decide) ?_
  refine g_iadd dL_law_711 ?_
  rw [show nI i + 1 = nI (i + 1) from nI_add i 1]
  refine g_sald dL_law_712 hs hsb (vp_in_nI (show i + 1 < Ln by omega) hLn) ?_
  rw [nI_clamp (by omega)]
  refine g_callV1 kc7 hm md_X6_isThere dL_law_713 ml_L_129 im_X6_isThere se_X6_isThere hmz.1 (RmOk.of (Nat.le_of_ble_eq_true rfl) (Nat.le_of_ble_eq_true rfl) (Nat.le_of_ble_eq_true rfl) (by (try dsimp only [room_1, rm_L_isThere, rm_X6_isThere]); omega) (by (try dsimp only [room_1, rm_L_isThere, rm_X6_isThere]); omega)) (kr_B (fun w1 hw1 => ?_)) kx_B
  obtain ⟨hJ2, ⟨f, hf1, hf2⟩, hfr⟩ := hw1
  refine g_istore6 dL_law_716 ?_
  refine g_aload2 dL_law_718 ?_
  refine g_callV0 kc7 (mt_thrown hJ2.2.1) md_X6_thrown dL_law_719 ml_L_93 im_X6_thrown se_X6_thrown hJ2.2.1.1 (RmOk.of (Nat.le_of_ble_eq_true rfl) (Nat.le_of_ble_eq_true rfl) (Nat.le_of_ble_eq_true rfl) (by (try dsimp only [room_1, rm_L_isThere, rm_X6_isThere, rm_X6_thrown]); omega) (by (try dsimp only [room_1, rm_L_isThere, rm_X6_isThere, rm_X6_thrown]); omega)) (kr_V ?_) kx_V
  refine g_iload5 dL_law_722 ?_
  refine g_icmp_eq_t (tgt := 729) dL_law_724 (by decide) rfl ?_
  refine g_iload5 dL_law_729 ?_
  refine g_if_ne (tgt := 753) dL_law_731 (by decide) (fun hth => ?_) (fun hth => ?_)
  · skip
    refine g_goto (tgt := 1432) dL_law_753 (by decide) ?_
    exact hk _ _ _ _ _ _ _ _ hJ2 (by dsimp only [rm_L_isThere, rm_X6_isThere, rm_X6_thrown]; omega) (by dsimp only [rm_L_isThere, rm_X6_isThere, rm_X6_thrown]; omega)
  · skip
    refine g_aload3 dL_law_734 ?_
    refine g_iconst (v := 0) dL_law_735 (by decide) ?_
    refine g_lald dL_law_736 hf1 (vp_in_nI (show 0 < 1 by decide) (by decide)) ?_
    rw [show f (0 : Int32).toNatClampNeg = (if v = 0 then 0 else 1) from hf2 (nI_z h3 hth)]
    refine g_iload6 dL_law_737 ?_
    refine g_if_eq (tgt := 746) dL_law_739 (by decide) (fun hv => ?_) (fun hv => ?_)
    · skip
      refine g_lconst (v := 0) dL_law_746 (by decide) ?_
      refine g_lcmp dL_law_747 ?_
      refine g_if_eq_t (tgt := 753) dL_law_748 (by decide) (by first | rw [if_pos hv]; exact lcmp_self _ | rw [if_neg hv]; exact lcmp_self _) ?_
      refine g_goto (tgt := 1432) dL_law_753 (by decide) ?_
      exact hk _ _ _ _ _ _ _ _ hJ2 (by dsimp only [rm_L_isThere, rm_X6_isThere, rm_X6_thrown]; omega) (by dsimp only [rm_L_isThere, rm_X6_isThere, rm_X6_thrown]; omega)
    · skip
      refine g_lconst (v := 1) dL_law_742 (by decide) ?_
      refine g_goto (tgt := 747) dL_law_743 (by decide) ?_
      refine g_lcmp dL_law_747 ?_
      refine g_if_eq_t (tgt := 753) dL_law_748 (by decide) (by first | rw [if_pos hv]; exact lcmp_self _ | rw [if_neg hv]; exact lcmp_self _) ?_
      refine g_goto (tgt := 1432) dL_law_753 (by decide) ?_
      exact hk _ _ _ _ _ _ _ _ hJ2 (by dsimp only [rm_L_isThere, rm_X6_isThere, rm_X6_thrown]; omega) (by dsimp only [rm_L_isThere, rm_X6_isThere, rm_X6_thrown]; omega)

set_option maxRecDepth 100000 in
theorem la_documents (hF : Fx G X am ou) (hJ : Jn G X kp am ou th0 N A w) (hs : va_X sc Ln xs C.2.2.1 C.2.2.1.heap) (hsb : sc < (gH G).size) (hLn : Ln < 2 ^ 31) (hi : i + 5 < Ln) (hc9 : c + 800 ≤ 601024) (hk9 : k + 8000 ≤ 7293034)
    (hk : ∀ w2 th N' A' c2 k2 x5 x6, Jn G X kp am ou th N' A' w2 → c2 ≤ c + 800 → k2 ≤ k + 8000 → Go G room_1 cL_law RL Y C Q 1432 [some (.ref sc), some (.ref kp), some (.ref (am 0)), some (.ref ou), some (.int (nI i)), x5, x6] [] w2 c2 k2) :
    Go G room_1 cL_law RL Y C Q 680 [some (.ref sc), some (.ref kp), some (.ref (am 0)), some (.ref ou), some (.int (nI i)), y5, y6] [] w c k := by
  have hkp : ∃ fs, w kp = some (eO 6 fs) := by
    obtain ⟨S, hK, -, rfl⟩ := hJ.1
    exact ⟨_, hK.g0⟩
  obtain ⟨fsk, hkp⟩ := hkp
  obtain ⟨v, N', A', hc, hbo⟩ := bo_documents hF hJ
  refine g_aload1 dL_law_680 ?_
  refine g_callV0 kc6 hc md_X5_documents dL_law_681 ml_L_123 im_X5_documents se_X5_documents hkp (RmOk.of (Nat.le_of_ble_eq_true rfl) (Nat.le_of_ble_eq_true rfl) (Nat.le_of_ble_eq_true rfl) (by (try dsimp only [room_1, rm_X5_documents]); omega) (by (try dsimp only [room_1, rm_X5_documents]); omega)) (kr_B (fun w1 hw1 => ?_)) kx_B
  have hm := hbo w1 hw1
  have hq : WQ G X w kp ou 1 0 N' A' w1 := Or.inr ⟨by decide, hw1⟩
  have hmz := hq.mz hJ.2.1 hF.2.2.2.1 hF.2.2.2.2.1
  refine g_aload2 dL_law_684 ?_
  refine g_callV0 kc7 hm md_X6_documents dL_law_685 ml_L_126 im_X6_documents se_X6_documents hmz.1 (RmOk.of (Nat.le_of_ble_eq_true rfl) (Nat.le_of_ble_eq_true rfl) (Nat.le_of_ble_eq_true rfl) (by (try dsimp only [room_1, rm_X5_documents, rm_X6_documents]); omega) (by (try dsimp only [room_1, rm_X5_documents, rm_X6_documents]); omega)) (kr_B (fun w1 hw1 => ?_)) kx_B
  obtain ⟨hJ2, hfr⟩ := hw1
  refine g_icmp_eq_t (tgt := 1432) dL_law_688 (by decide) rfl ?_
  exact hk _ _ _ _ _ _ _ _ hJ2 (by dsimp only [rm_X5_documents, rm_X6_documents]; omega) (by dsimp only [rm_X5_documents, rm_X6_documents]; omega)
set_option maxRecDepth 100000 in
theorem la_clear (hF : Fx G X am ou) (hJ : Jn G X kp am ou th0 N A w) (hs : va_X sc Ln xs C.2.2.1 C.2.2.1.heap) (hsb : sc < (gH G).size) (hLn : Ln < 2 ^ 31) (hi : i + 5 < Ln) (hc9 : c + 800 ≤ 601024) (hk9 : k + 8000 ≤ 7293034)
    (hk : ∀ w2 th N' A' c2 k2 x5 x6, Jn G X kp am ou th N' A' w2 → c2 ≤ c + 800 → k2 ≤ k + 8000 → Go G room_1 cL_law RL Y C Q 1432 [some (.ref sc), some (.ref kp), some (.ref (am 0)), some (.ref ou), some (.int (nI i)), x5, x6] [] w2 c2 k2) :
    Go G room_1 cL_law RL Y C Q 1351 [some (.ref sc), some (.ref kp), some (.ref (am 0)), some (.ref ou), some (.int (nI i)), y5, y6] [] w c k := by
  have hkp : ∃ fs, w kp = some (eO 6 fs) := by
    obtain ⟨S, hK, -, rfl⟩ := hJ.1
    exact ⟨_, hK.g0⟩
  obtain ⟨fsk, hkp⟩ := hkp
  obtain ⟨v, N', A', hc, hbo⟩ := bo_clear hF hJ
  refine g_aload1 dL_law_1351 ?_
  refine g_callV0 kc6 hc md_X5_clear dL_law_1352 ml_L_158 im_X5_clear se_X5_clear hkp (RmOk.of (Nat.le_of_ble_eq_true rfl) (Nat.le_of_ble_eq_true rfl) (Nat.le_of_ble_eq_true rfl) (by (try dsimp only [room_1, rm_X5_clear]); omega) (by (try dsimp only [room_1, rm_X5_clear]); omega)) (kr_B (fun w1 hw1 => ?_)) kx_B
  have hm := hbo w1 hw1
  have hq : WQ G X w kp ou 1 0 N' A' w1 := Or.inr ⟨by decide, hw1⟩
  have hmz := hq.mz hJ.2.1 hF.2.2.2.1 hF.2.2.2.2.1
  refine g_aload2 dL_law_1355 ?_
  refine g_callV0 kc7 hm md_X6_clear dL_law_1356 ml_L_161 im_X6_clear se_X6_clear hmz.1 (RmOk.of (Nat.le_of_ble_eq_true rfl) (Nat.le_of_ble_eq_true rfl) (Nat.le_of_ble_eq_true rfl) (by (try dsimp only [room_1, rm_X5_clear, rm_X6_clear]); omega) (by (try dsimp only [room_1, rm_X5_clear, rm_X6_clear]); omega)) (kr_B (fun w1 hw1 => ?_)) kx_B
  obtain ⟨hJ2, hfr⟩ := hw1
  refine g_icmp_eq_t (tgt := 1432) dL_law_1359 (by decide) rfl ?_
  exact hk _ _ _ _ _ _ _ _ hJ2 (by dsimp only [rm_X5_clear, rm_X6_clear]; omega) (by dsimp only [rm_X5_clear, rm_X6_clear]; omega)
set_option maxRecDepth 100000 in
theorem la_view (hF : Fx G X am ou) (hJ : Jn G X kp am ou th0 N A w) (hs : va_X sc Ln xs C.2.2.1 C.2.2.1.heap) (hsb : sc < (gH G).size) (hLn : Ln < 2 ^ 31) (hi : i + 5 < Ln) (hc9 : c + 800 ≤ 601024) (hk9 : k + 8000 ≤ 7293034)
    (hk : ∀ w2 th N' A' c2 k2 x5 x6, Jn G X kp am ou th N' A' w2 → c2 ≤ c + 800 → k2 ≤ k + 8000 → Go G room_1 cL_law RL Y C Q 1432 [some (.ref sc), some (.ref kp), some (.ref (am 0)), some (.ref ou), some (.int (nI i)), x5, x6] [] w2 c2 k2) :
    Go G room_1 cL_law RL Y C Q 1120 [some (.ref sc), some (.ref kp), some (.ref (am 0)), some (.ref ou), some (.int (nI i)), y5, y6] [] w c k := by
  obtain ⟨th, N', A', hc, hbo⟩ := bo_view hF hJ (xs (i + 1)) (xs (i + 2)) (xs (i + 3)) (xs (i + 4))
  refine g_aload1 dL_law_1120 ?_
  refine g_aload0 dL_law_1121 ?_
  refine g_iload4 dL_law_1122 ?_
  refine g_iconst (v := 1) dL_law_1124 (by decide) ?_
  refine g_iadd dL_law_1125 ?_
  rw [show nI i + 1 = nI (i + 1) from nI_add i 1]
  refine g_sald dL_law_1126 hs hsb (vp_in_nI (show i + 1 < Ln by omega) hLn) ?_
  rw [nI_clamp (by omega)]
  refine g_aload0 dL_law_1127 ?_
  refine g_iload4 dL_law_1128 ?_
  refine g_iconst (v := 2) dL_law_1130 (by decide) ?_
  refine g_iadd dL_law_1131 ?_
  rw [show nI i + 2 = nI (i + 2) from nI_add i 2]
  refine g_sald dL_law_1132 hs hsb (vp_in_nI (show i + 2 < Ln by omega) hLn) ?_
  rw [nI_clamp (by omega)]
  refine g_aload0 dL_law_1133 ?_
  refine g_iload4 dL_law_1134 ?_
  refine g_iconst (v := 3) dL_law_1136 (by decide) ?_
  refine g_iadd dL_law_1137 ?_
  rw [show nI i + 3 = nI (i + 3) from nI_add i 3]
  refine g_sald dL_law_1138 hs hsb (vp_in_nI (show i + 3 < Ln by omega) hLn) ?_
  rw [nI_clamp (by omega)]
  refine g_aload0 dL_law_1139 ?_
  refine g_iload4 dL_law_1140 ?_
  refine g_iconst (v := 4) dL_law_1142 (by decide) ?_
  refine g_iadd dL_law_1143 ?_
  rw [show nI i + 4 = nI (i + 4) from nI_add i 4]
  refine g_sald dL_law_1144 hs hsb (vp_in_nI (show i + 4 < Ln by omega) hLn) ?_
  rw [nI_clamp (by omega)]
  refine g_callSW5 hc md_L_view dL_law_1145 ml_L_147 st_L_view (RmOk.of (Nat.le_of_ble_eq_true rfl) (Nat.le_of_ble_eq_true rfl) (Nat.le_of_ble_eq_true rfl) (by (try dsimp only [room_1, rm_L_view]); omega) (by (try dsimp only [room_1, rm_L_view]); omega)) (kr_B (fun w1 hw1 => ?_)) kx_B
  have hm := hbo w1 hw1
  have hq : WQ G X w kp ou 1 0 N' A' w1 := Or.inr ⟨by decide, hw1⟩
  have hmz := hq.mz hJ.2.1 hF.2.2.2.1 hF.2.2.2.2.1
  refine g_istore5 dL_law_1148 ?_
  refine g_aload2 dL_law_1150 ?_
  refine g_aload0 dL_law_1151 ?_
  refine g_iload4 dL_law_1152 ?_
  refine g_iconst (v := 1) dL_law_1154 (by decide) ?_
  refine g_iadd dL_law_1155 ?_
  rw [show nI i + 1 = nI (i + 1) from nI_add i 1]
  refine g_sald dL_law_1156 hs hsb (vp_in_nI (show i + 1 < Ln by omega) hLn) ?_
  rw [nI_clamp (by omega)]
  refine g_aload0 dL_law_1157 ?_
  refine g_iload4 dL_law_1158 ?_
  refine g_iconst (v := 2) dL_law_1160 (by decide) ?_
  refine g_iadd dL_law_1161 ?_
  rw [show nI i + 2 = nI (i + 2) from nI_add i 2]
  refine g_sald dL_law_1162 hs hsb (vp_in_nI (show i + 2 < Ln by omega) hLn) ?_
  rw [nI_clamp (by omega)]
  refine g_aload0 dL_law_1163 ?_
  refine g_iload4 dL_law_1164 ?_
  refine g_iconst (v := 3) dL_law_1166 (by decide) ?_
  refine g_iadd dL_law_1167 ?_
  rw [show nI i + 3 = nI (i + 3) from nI_add i 3]
  refine g_sald dL_law_1168 hs hsb (vp_in_nI (show i + 3 < Ln by omega) hLn) ?_
  rw [nI_clamp (by omega)]
  refine g_aload0 dL_law_1169 ?_
  refine g_iload4 dL_law_1170 ?_
  refine g_iconst (v := 4) dL_law_1172 (by decide) ?_
  refine g_iadd dL_law_1173 ?_
  rw [show nI i + 4 = nI (i + 4) from nI_add i 4]
  refine g_sald dL_law_1174 hs hsb (vp_in_nI (show i + 4 < Ln by omega) hLn) ?_
  rw [nI_clamp (by omega)]
  refine g_callV4 kc7 hm md_X6_view dL_law_1175 ml_L_150 im_X6_view se_X6_view hmz.1 (RmOk.of (Nat.le_of_ble_eq_true rfl) (Nat.le_of_ble_eq_true rfl) (Nat.le_of_ble_eq_true rfl) (by (try dsimp only [room_1, rm_L_view, rm_X6_view]); omega) (by (try dsimp only [room_1, rm_L_view, rm_X6_view]); omega)) (kr_N (fun w1 hw1 => ?_)) kx_N
  obtain ⟨hJ2, hfr⟩ := hw1
  refine g_aload2 dL_law_1178 ?_
  refine g_callV0 kc7 (mt_thrown hJ2.2.1) md_X6_thrown dL_law_1179 ml_L_93 im_X6_thrown se_X6_thrown hJ2.2.1.1 (RmOk.of (Nat.le_of_ble_eq_true rfl) (Nat.le_of_ble_eq_true rfl) (Nat.le_of_ble_eq_true rfl) (by (try dsimp only [room_1, rm_L_view, rm_X6_view, rm_X6_thrown]); omega) (by (try dsimp only [room_1, rm_L_view, rm_X6_view, rm_X6_thrown]); omega)) (kr_V ?_) kx_V
  refine g_iload5 dL_law_1182 ?_
  refine g_icmp_eq_t (tgt := 1189) dL_law_1184 (by decide) rfl ?_
  refine g_goto (tgt := 1432) dL_law_1189 (by decide) ?_
  exact hk _ _ _ _ _ _ _ _ hJ2 (by dsimp only [rm_L_view, rm_X6_view, rm_X6_thrown]; omega) (by dsimp only [rm_L_view, rm_X6_view, rm_X6_thrown]; omega)
set_option maxRecDepth 100000 in
theorem la_hold1 (hF : Fx G X am ou) (hJ : Jn G X kp am ou th0 N A w) (hs : va_X sc Ln xs C.2.2.1 C.2.2.1.heap) (hsb : sc < (gH G).size) (hLn : Ln < 2 ^ 31) (hi : i + 5 < Ln) (hz : ¬ xs (i + 2) = 0) (hc9 : c + 800 ≤ 601024) (hk9 : k + 8000 ≤ 7293034)
    (hk : ∀ w2 th N' A' c2 k2 x5 x6, Jn G X kp am ou th N' A' w2 → c2 ≤ c + 800 → k2 ≤ k + 8000 → Go G room_1 cL_law RL Y C Q 1432 [some (.ref sc), some (.ref kp), some (.ref (am 0)), some (.ref ou), some (.int (nI i)), x5, x6] [] w2 c2 k2) :
    Go G room_1 cL_law RL Y C Q 1260 [some (.ref sc), some (.ref kp), some (.ref (am 0)), some (.ref ou), some (.int (nI i)), y5, y6] [] w c k := by
  obtain ⟨th, v, N', A', h3, hc, hbo⟩ := bo_hold hF hJ (xs (i + 1)) true
  refine g_aload1 dL_law_1260 ?_
  refine g_aload0 dL_law_1261 ?_
  refine g_iload4 dL_law_1262 ?_
  refine g_iconst (v := 1) dL_law_1264 (by decide) ?_
  refine g_iadd dL_law_1265 ?_
  rw [show nI i + 1 = nI (i + 1) from nI_add i 1]
  refine g_sald dL_law_1266 hs hsb (vp_in_nI (show i + 1 < Ln by omega) hLn) ?_
  rw [nI_clamp (by omega)]
  refine g_aload0 dL_law_1267 ?_
  refine g_iload4 dL_law_1268 ?_
  refine g_iconst (v := 2) dL_law_1270 (by decide) ?_
  refine g_iadd dL_law_1271 ?_
  rw [show nI i + 2 = nI (i + 2) from nI_add i 2]
  refine g_sald dL_law_1272 hs hsb (vp_in_nI (show i + 2 < Ln by omega) hLn) ?_
  rw [nI_clamp (by omega)]
  refine g_if_eq_f (tgt := 1280) dL_law_1273 (by decide) hz ?_
  refine g_iconst (v := 1) dL_law_1276 (by decide) ?_
  refine g_goto (tgt := 1281) dL_law_1277 (by decide) ?_
  refine g_aload3 dL_law_1281 ?_
  refine g_callSW4 hc md_L_hold dL_law_1282 ml_L_154 st_L_hold (RmOk.of (Nat.le_of_ble_eq_true rfl) (Nat.le_of_ble_eq_true rfl) (Nat.le_of_ble_eq_true rfl) (by (try dsimp only [room_1, rm_L_hold]); omega) (by (try dsimp only [room_1, rm_L_hold]); omega)) (kr_B (fun w1 hw1 => ?_)) kx_B
  have hm := hbo w1 hw1
  have hmz := hw1.mz hJ.2.1 hF.2.2.2.1 hF.2.2.2.2.1
  refine g_istore5 dL_law_1285 ?_
  refine g_aload2 dL_law_1287 ?_
  refine g_aload0 dL_law_1288 ?_
  refine g_iload4 dL_law_1289 ?_
  refine g_iconst (v := 1) dL_law_1291 (by decide) ?_
  refine g_iadd dL_law_1292 ?_
  rw [show nI i + 1 = nI (i + 1) from nI_add i 1]
  refine g_sald dL_law_1293 hs hsb (vp_in_nI (show i + 1 < Ln by omega) hLn) ?_
  rw [nI_clamp (by omega)]
  refine g_aload0 dL_law_1294 ?_
  refine g_iload4 dL_law_1295 ?_
  refine g_iconst (v := 2) dL_law_1297 (by decide) ?_
  refine g_iadd dL_law_1298 ?_
  rw [show nI i + 2 = nI (i + 2) from nI_add i 2]
  refine g_sald dL_law_1299 hs hsb (vp_in_nI (show i + 2 < Ln by omega) hLn) ?_
  rw [nI_clamp (by omega)]
  refine g_if_eq_f (tgt := 1307) dL_law_1300 (by decide) hz ?_
  refine g_iconst (v := 1) dL_law_1303 (by decide) ?_
  refine g_goto (tgt := 1308) dL_law_1304 (by decide) ?_
  refine g_callV2 kc7 hm md_X6_hold dL_law_1308 ml_L_157 im_X6_hold se_X6_hold hmz.1 (RmOk.of (Nat.le_of_ble_eq_true rfl) (Nat.le_of_ble_eq_true rfl) (Nat.le_of_ble_eq_true rfl) (by (try dsimp only [room_1, rm_L_hold, rm_X6_hold]); omega) (by (try dsimp only [room_1, rm_L_hold, rm_X6_hold]); omega)) (kr_B (fun w1 hw1 => ?_)) kx_B
  obtain ⟨hJ2, ⟨f, hf1, hf2⟩, hfr⟩ := hw1
  refine g_istore6 dL_law_1311 ?_
  refine g_aload2 dL_law_1313 ?_
  refine g_callV0 kc7 (mt_thrown hJ2.2.1) md_X6_thrown dL_law_1314 ml_L_93 im_X6_thrown se_X6_thrown hJ2.2.1.1 (RmOk.of (Nat.le_of_ble_eq_true rfl) (Nat.le_of_ble_eq_true rfl) (Nat.le_of_ble_eq_true rfl) (by (try dsimp only [room_1, rm_L_hold, rm_X6_hold, rm_X6_thrown]); omega) (by (try dsimp only [room_1, rm_L_hold, rm_X6_hold, rm_X6_thrown]); omega)) (kr_V ?_) kx_V
  refine g_iload5 dL_law_1317 ?_
  refine g_icmp_eq_t (tgt := 1324) dL_law_1319 (by decide) rfl ?_
  refine g_iload5 dL_law_1324 ?_
  refine g_if_ne (tgt := 1348) dL_law_1326 (by decide) (fun hth => ?_) (fun hth => ?_)
  · skip
    refine g_goto (tgt := 1432) dL_law_1348 (by decide) ?_
    exact hk _ _ _ _ _ _ _ _ hJ2 (by dsimp only [rm_L_hold, rm_X6_hold, rm_X6_thrown]; omega) (by dsimp only [rm_L_hold, rm_X6_hold, rm_X6_thrown]; omega)
  · skip
    refine g_aload3 dL_law_1329 ?_
    refine g_iconst (v := 0) dL_law_1330 (by decide) ?_
    refine g_lald dL_law_1331 hf1 (vp_in_nI (show 0 < 1 by decide) (by decide)) ?_
    rw [show f (0 : Int32).toNatClampNeg = (if v = 0 then 0 else 1) from hf2 (nI_z h3 hth)]
    refine g_iload6 dL_law_1332 ?_
    refine g_if_eq (tgt := 1341) dL_law_1334 (by decide) (fun hv => ?_) (fun hv => ?_)
    · skip
      refine g_lconst (v := 0) dL_law_1341 (by decide) ?_
      refine g_lcmp dL_law_1342 ?_
      refine g_if_eq_t (tgt := 1348) dL_law_1343 (by decide) (by first | rw [if_pos hv]; exact lcmp_self _ | rw [if_neg hv]; exact lcmp_self _) ?_
      refine g_goto (tgt := 1432) dL_law_1348 (by decide) ?_
      exact hk _ _ _ _ _ _ _ _ hJ2 (by dsimp only [rm_L_hold, rm_X6_hold, rm_X6_thrown]; omega) (by dsimp only [rm_L_hold, rm_X6_hold, rm_X6_thrown]; omega)
    · skip
      refine g_lconst (v := 1) dL_law_1337 (by decide) ?_
      refine g_goto (tgt := 1342) dL_law_1338 (by decide) ?_
      refine g_lcmp dL_law_1342 ?_
      refine g_if_eq_t (tgt := 1348) dL_law_1343 (by decide) (by first | rw [if_pos hv]; exact lcmp_self _ | rw [if_neg hv]; exact lcmp_self _) ?_
      refine g_goto (tgt := 1432) dL_law_1348 (by decide) ?_
      exact hk _ _ _ _ _ _ _ _ hJ2 (by dsimp only [rm_L_hold, rm_X6_hold, rm_X6_thrown]; omega) (by dsimp only [rm_L_hold, rm_X6_hold, rm_X6_thrown]; omega)
set_option maxRecDepth 100000 in
theorem la_hold0 (hF : Fx G X am ou) (hJ : Jn G X kp am ou th0 N A w) (hs : va_X sc Ln xs C.2.2.1 C.2.2.1.heap) (hsb : sc < (gH G).size) (hLn : Ln < 2 ^ 31) (hi : i + 5 < Ln) (hz : xs (i + 2) = 0) (hc9 : c + 800 ≤ 601024) (hk9 : k + 8000 ≤ 7293034)
    (hk : ∀ w2 th N' A' c2 k2 x5 x6, Jn G X kp am ou th N' A' w2 → c2 ≤ c + 800 → k2 ≤ k + 8000 → Go G room_1 cL_law RL Y C Q 1432 [some (.ref sc), some (.ref kp), some (.ref (am 0)), some (.ref ou), some (.int (nI i)), x5, x6] [] w2 c2 k2) :
    Go G room_1 cL_law RL Y C Q 1260 [some (.ref sc), some (.ref kp), some (.ref (am 0)), some (.ref ou), some (.int (nI i)), y5, y6] [] w c k := by
  obtain ⟨th, v, N', A', h3, hc, hbo⟩ := bo_hold hF hJ (xs (i + 1)) false
  refine g_aload1 dL_law_1260 ?_
  refine g_aload0 dL_law_1261 ?_
  refine g_iload4 dL_law_1262 ?_
  refine g_iconst (v := 1) dL_law_1264 (by decide) ?_
  refine g_iadd dL_law_1265 ?_
  rw [show nI i + 1 = nI (i + 1) from nI_add i 1]
  refine g_sald dL_law_1266 hs hsb (vp_in_nI (show i + 1 < Ln by omega) hLn) ?_
  rw [nI_clamp (by omega)]
  refine g_aload0 dL_law_1267 ?_
  refine g_iload4 dL_law_1268 ?_
  refine g_iconst (v := 2) dL_law_1270 (by decide) ?_
  refine g_iadd dL_law_1271 ?_
  rw [show nI i + 2 = nI (i + 2) from nI_add i 2]
  refine g_sald dL_law_1272 hs hsb (vp_in_nI (show i + 2 < Ln by omega) hLn) ?_
  rw [nI_clamp (by omega)]
  refine g_if_eq_t (tgt := 1280) dL_law_1273 (by decide) hz ?_
  refine g_iconst (v := 0) dL_law_1280 (by decide) ?_
  refine g_aload3 dL_law_1281 ?_
  refine g_callSW4 hc md_L_hold dL_law_1282 ml_L_154 st_L_hold (RmOk.of (Nat.le_of_ble_eq_true rfl) (Nat.le_of_ble_eq_true rfl) (Nat.le_of_ble_eq_true rfl) (by (try dsimp only [room_1, rm_L_hold]); omega) (by (try dsimp only [room_1, rm_L_hold]); omega)) (kr_B (fun w1 hw1 => ?_)) kx_B
  have hm := hbo w1 hw1
  have hmz := hw1.mz hJ.2.1 hF.2.2.2.1 hF.2.2.2.2.1
  refine g_istore5 dL_law_1285 ?_
  refine g_aload2 dL_law_1287 ?_
  refine g_aload0 dL_law_1288 ?_
  refine g_iload4 dL_law_1289 ?_
  refine g_iconst (v := 1) dL_law_1291 (by decide) ?_
  refine g_iadd dL_law_1292 ?_
  rw [show nI i + 1 = nI (i + 1) from nI_add i 1]
  refine g_sald dL_law_1293 hs hsb (vp_in_nI (show i + 1 < Ln by omega) hLn) ?_
  rw [nI_clamp (by omega)]
  refine g_aload0 dL_law_1294 ?_
  refine g_iload4 dL_law_1295 ?_
  refine g_iconst (v := 2) dL_law_1297 (by decide) ?_
  refine g_iadd dL_law_1298 ?_
  rw [show nI i + 2 = nI (i + 2) from nI_add i 2]
  refine g_sald dL_law_1299 hs hsb (vp_in_nI (show i + 2 < Ln by omega) hLn) ?_
  rw [nI_clamp (by omega)]
  refine g_if_eq_t (tgt := 1307) dL_law_1300 (by decide) hz ?_
  refine g_iconst (v := 0) dL_law_1307 (by decide) ?_
  refine g_callV2 kc7 hm md_X6_hold dL_law_1308 ml_L_157 im_X6_hold se_X6_hold hmz.1 (RmOk.of (Nat.le_of_ble_eq_true rfl) (Nat.le_of_ble_eq_true rfl) (Nat.le_of_ble_eq_true rfl) (by (try dsimp only [room_1, rm_L_hold, rm_X6_hold]); omega) (by (try dsimp only [room_1, rm_L_hold, rm_X6_hold]); omega)) (kr_B (fun w1 hw1 => ?_)) kx_B
  obtain ⟨hJ2, ⟨f, hf1, hf2⟩, hfr⟩ := hw1
  refine g_istore6 dL_law_1311 ?_
  refine g_aload2 dL_law_1313 ?_
  refine g_callV0 kc7 (mt_thrown hJ2.2.1) md_X6_thrown dL_law_1314 ml_L_93 im_X6_thrown se_X6_thrown hJ2.2.1.1 (RmOk.of (Nat.le_of_ble_eq_true rfl) (Nat.le_of_ble_eq_true rfl) (Nat.le_of_ble_eq_true rfl) (by (try dsimp only [room_1, rm_L_hold, rm_X6_hold, rm_X6_thrown]); omega) (by (try dsimp only [room_1, rm_L_hold, rm_X6_hold, rm_X6_thrown]); omega)) (kr_V ?_) kx_V
  refine g_iload5 dL_law_1317 ?_
  refine g_icmp_eq_t (tgt := 1324) dL_law_1319 (by decide) rfl ?_
  refine g_iload5 dL_law_1324 ?_
  refine g_if_ne (tgt := 1348) dL_law_1326 (by decide) (fun hth => ?_) (fun hth => ?_)
  · skip
    refine g_goto (tgt := 1432) dL_law_1348 (by decide) ?_
    exact hk _ _ _ _ _ _ _ _ hJ2 (by dsimp only [rm_L_hold, rm_X6_hold, rm_X6_thrown]; omega) (by dsimp only [rm_L_hold, rm_X6_hold, rm_X6_thrown]; omega)
  · skip
    refine g_aload3 dL_law_1329 ?_
    refine g_iconst (v := 0) dL_law_1330 (by decide) ?_
    refine g_lald dL_law_1331 hf1 (vp_in_nI (show 0 < 1 by decide) (by decide)) ?_
    rw [show f (0 : Int32).toNatClampNeg = (if v = 0 then 0 else 1) from hf2 (nI_z h3 hth)]
    refine g_iload6 dL_law_1332 ?_
    refine g_if_eq (tgt := 1341) dL_law_1334 (by decide) (fun hv => ?_) (fun hv => ?_)
    · skip
      refine g_lconst (v := 0) dL_law_1341 (by decide) ?_
      refine g_lcmp dL_law_1342 ?_
      refine g_if_eq_t (tgt := 1348) dL_law_1343 (by decide) (by first | rw [if_pos hv]; exact lcmp_self _ | rw [if_neg hv]; exact lcmp_self _) ?_
      refine g_goto (tgt := 1432) dL_law_1348 (by decide) ?_
      exact hk _ _ _ _ _ _ _ _ hJ2 (by dsimp only [rm_L_hold, rm_X6_hold, rm_X6_thrown]; omega) (by dsimp only [rm_L_hold, rm_X6_hold, rm_X6_thrown]; omega)
    · skip
      refine g_lconst (v := 1) dL_law_1337 (by decide) ?_
      refine g_goto (tgt := 1342) dL_law_1338 (by decide) ?_
      refine g_lcmp dL_law_1342 ?_
      refine g_if_eq_t (tgt := 1348) dL_law_1343 (by decide) (by first | rw [if_pos hv]; exact lcmp_self _ | rw [if_neg hv]; exact lcmp_self _) ?_
      refine g_goto (tgt := 1432) dL_law_1348 (by decide) ?_
      exact hk _ _ _ _ _ _ _ _ hJ2 (by dsimp only [rm_L_hold, rm_X6_hold, rm_X6_thrown]; omega) (by dsimp only [rm_L_hold, rm_X6_hold, rm_X6_thrown]; omega)
end LawCases
