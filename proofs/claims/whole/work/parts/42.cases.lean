/-! The law's cases, one call each. -/
theorem Fx.sc {G : Gx} {X : Nat → Prop} {kp ou th : Nat} {x : Int64} {am : Nat → Nat} {w w1 : Wd} {N : Nat → Nat} {A : Nat → Nat → Int32} {sc : Nat} (hX : X sc) (hne : sc ≠ ou) (h : WQ G X w kp ou th x N A w1) : w1 sc = w sc := by
  rcases h with ⟨_, f, _, S, h1, -⟩ | ⟨_, S, h1, -⟩
  · rw [(h1.X _ hX).1, up_n hne]
  · exact (h1.X _ hX).1

theorem lcmp_self (x : Int64) : lg_cmp x x = 0 := by unfold lg_cmp; simp
theorem nI_z {n : Nat} (h : n ≤ 3) (h0 : nI n = 0) : n = 0 := (nI_eq (b := 0) (by omega) (by decide)).mp h0
section LawCases
variable {G : Gx} {Y : Yx} {C : Cx} {Q : State → Prop} {X : Nat → Prop} {w : Wd} {kp ou sc Ln i c k : Nat} {xs : Nat → Int32} {am : Nat → Nat} {N : Nat → Nat} {A : Nat → Nat → Int32} {th0 : Int32} {y5 y6 : Option Value}
set_option maxRecDepth 100000 in
theorem la_pass (hF : Fx G X am ou) (hJ : Jn G X kp am ou th0 N A w) (hs : w sc = some (eI G Ln xs)) (hXs : X sc) (hne : sc ≠ ou) (hsa : ∀ k, mIs k = true → sc ≠ am k) (hLn : Ln < 2 ^ 31) (hi : i + 5 < Ln) (hc9 : c + 800 ≤ 601024) (hk9 : k + 8000 ≤ 7293034)
    (hk : ∀ w2 th N' A' c2 k2 x5 x6, Jn G X kp am ou th N' A' w2 → w2 sc = some (eI G Ln xs) → c2 ≤ c + 800 → k2 ≤ k + 8000 → Go G room_1 cL_law RL Y C Q 1432 [some (.ref sc), some (.ref kp), some (.ref (am 0)), some (.ref ou), some (.int (nI i)), x5, x6] [] w2 c2 k2) :
    Go G room_1 cL_law RL Y C Q 140 [some (.ref sc), some (.ref kp), some (.ref (am 0)), some (.ref ou), some (.int (nI i)), y5, y6] [] w c k := by
  obtain ⟨th, v, N', A', h3, hc, hbo⟩ := bo_pass hF hJ (xs (i + 1))
  refine g_aload1 dL_law_140 ?_
  refine g_aload0 dL_law_141 ?_
  refine g_iload4 dL_law_142 ?_
  refine g_iconst (v := 1) dL_law_144 (by decide) ?_
  refine g_iadd dL_law_145 ?_
  rw [show nI i + 1 = nI (i + 1) from nI_add i 1]
  refine g_iald dL_law_146 hs (vp_in_nI (show i + 1 < Ln by omega) hLn) ?_
  rw [nI_clamp (by omega)]
  refine g_aload3 dL_law_147 ?_
  refine g_callSW3 hc md_L_pass dL_law_148 ml_L_87 st_L_pass (RmOk.of (Nat.le_of_ble_eq_true rfl) (Nat.le_of_ble_eq_true rfl) (Nat.le_of_ble_eq_true rfl) (by (try dsimp only [room_1, rm_L_pass]); omega) (by (try dsimp only [room_1, rm_L_pass]); omega)) (kr_B (fun w1 hw1 => ?_)) kx_B
  have hm := hbo w1 hw1
  have hs1 : w1 sc = some (eI G Ln xs) := (Fx.sc (am := am) hXs hne hw1).trans hs
  have hmz := hw1.mz hJ.2.1 hF.2.2.2.1 hF.2.2.2.2.1
  refine g_istore5 dL_law_151 ?_
  refine g_aload2 dL_law_153 ?_
  refine g_aload0 dL_law_154 ?_
  refine g_iload4 dL_law_155 ?_
  refine g_iconst (v := 1) dL_law_157 (by decide) ?_
  refine g_iadd dL_law_158 ?_
  rw [show nI i + 1 = nI (i + 1) from nI_add i 1]
  refine g_iald dL_law_159 hs1 (vp_in_nI (show i + 1 < Ln by omega) hLn) ?_
  rw [nI_clamp (by omega)]
  refine g_callV1 kc7 hm md_X6_pass dL_law_160 ml_L_92 im_X6_pass se_X6_pass hmz.1 (RmOk.of (Nat.le_of_ble_eq_true rfl) (Nat.le_of_ble_eq_true rfl) (Nat.le_of_ble_eq_true rfl) (by (try dsimp only [room_1, rm_L_pass, rm_X6_pass]); omega) (by (try dsimp only [room_1, rm_L_pass, rm_X6_pass]); omega)) (kr_B (fun w1 hw1 => ?_)) kx_B
  obtain ⟨hJ2, ⟨f, hf1, hf2⟩, hfr⟩ := hw1
  have hs2 : w1 sc = some (eI G Ln xs) := (hfr sc hsa).trans hs1
  refine g_istore6 dL_law_163 ?_
  refine g_aload2 dL_law_165 ?_
  refine g_callV0 kc7 (mt_thrown hJ2.2.1) md_X6_thrown dL_law_166 ml_L_93 im_X6_thrown se_X6_thrown hJ2.2.1.1 (RmOk.of (Nat.le_of_ble_eq_true rfl) (Nat.le_of_ble_eq_true rfl) (Nat.le_of_ble_eq_true rfl) (by (try dsimp only [room_1, rm_L_pass, rm_X6_pass, rm_X6_thrown]); omega) (by (try dsimp only [room_1, rm_L_pass, rm_X6_pass, rm_X6_thrown]); omega)) (kr_V ?_) kx_V
  refine g_iload5 dL_law_169 ?_
  refine g_icmp_eq_t (tgt := 176) dL_law_171 (by decide) rfl ?_
  refine g_iload5 dL_law_176 ?_
  refine g_if_ne (tgt := 193) dL_law_178 (by decide) (fun hth => ?_) (fun hth => ?_)
  · skip
    refine g_goto (tgt := 1432) dL_law_193 (by decide) ?_
    exact hk _ _ _ _ _ _ _ _ hJ2 hs2 (by dsimp only [rm_L_pass, rm_X6_pass, rm_X6_thrown]; omega) (by dsimp only [rm_L_pass, rm_X6_pass, rm_X6_thrown]; omega)
  · skip
    refine g_aload3 dL_law_181 ?_
    refine g_iconst (v := 0) dL_law_182 (by decide) ?_
    refine g_lald dL_law_183 hf1 (vp_in_nI (show 0 < 1 by decide) (by decide)) ?_
    rw [show f (0 : Int32).toNatClampNeg = v.toInt64 from hf2 (nI_z h3 hth)]
    refine g_iload6 dL_law_184 ?_
    refine g_i2l dL_law_186 ?_
    refine g_lcmp dL_law_187 ?_
    refine g_if_eq_t (tgt := 193) dL_law_188 (by decide) (lcmp_self _) ?_
    refine g_goto (tgt := 1432) dL_law_193 (by decide) ?_
    exact hk _ _ _ _ _ _ _ _ hJ2 hs2 (by dsimp only [rm_L_pass, rm_X6_pass, rm_X6_thrown]; omega) (by dsimp only [rm_L_pass, rm_X6_pass, rm_X6_thrown]; omega)

end LawCases
