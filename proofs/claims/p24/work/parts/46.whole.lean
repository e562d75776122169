/-! isTold: its loops over documents and runs; the whole. -/

set_option maxRecDepth 100000 in
theorem it_B5 {G : Gx} {C : Cx} {X : Nat → Prop} {am : Nat → Nat} {w : Wd} {kp : Nat} {FJ : Nat → Nat → Int64} {FI : Nat → Nat → Int32} {N : Nat → Nat} {A : Nat → Nat → Int32} {y z : Int32} (hI : Inv0 G X w kp N A w) (hM : LA G am w FJ FI w) (hJ : JJ N A FJ FI) {r f mm dy : Nat} (hr : r < N 13) (hdy : dy ≤ 9999) (hm1 : 1 ≤ mm) (hfm : f + mm ≤ N 6) (e15 : A 15 r = nI f) (e16 : A 16 r = nI mm) (e14 : A 14 r = nI dy) (e3 : FI 3 r = nI (f + 64 * mm + 4096 * dy)) {x13 x15 x16 x17 x18 x19 x20 x21 : Option Value} (hnext : ∀ (c2 k2 : Nat) (x11 x12 x13 x14 x15 x16 : Option Value), c2 ≤ 480 + 125 * (r + 1) → k2 ≤ 2880 + 750 * (r + 1) → Go G rm_L_isTold cL_isTold RL (some .boolean, "isTold", []) C (QP G rm_L_isTold (PV (.int 1) w) C) 93 [some (.ref kp), some (.int y), some (.int z), some (.ref (am 1)), some (.ref (am 2)), some (.ref (am 3)), some (.ref (am 5)), some (.ref (am 6)), some (.ref (am 7)), some (.ref (am 10)), some (.int (nI (r + 1))), x11, x12, x13, x14, x15, x16, x17, x18, x19, x20, x21] [] w c2 k2) : ∀ (M : Nat) (i : Nat) (c : Nat) (k : Nat), mm - i < M → i ≤ mm → c ≤ 480 + 125 * r + 6 + 2 * i → k ≤ 2880 + 750 * r + 36 + 12 * i → Go G rm_L_isTold cL_isTold RL (some .boolean, "isTold", []) C (QP G rm_L_isTold (PV (.int 1) w) C) 277 [some (.ref kp), some (.int y), some (.int z), some (.ref (am 1)), some (.ref (am 2)), some (.ref (am 3)), some (.ref (am 5)), some (.ref (am 6)), some (.ref (am 7)), some (.ref (am 10)), some (.int (nI r)), some (.int (nI f)), some (.int (nI mm)), x13, some (.int (nI i)), x15, x16, x17, x18, x19, x20, x21] [] w c k := by
  have hJ0 := hJ
  obtain ⟨⟨G0, G1, G2, G3, G4, G5⟩, hB, hO, hP, hF, hR, hD, hV, hS, hT⟩ := hJ0
  obtain ⟨b1, b2, b3, b4, b5, b6⟩ := id hB
  have hb := hI.g0
  obtain ⟨fs0, hb0⟩ := hI.g0
  intro M
  induction M with
  | zero => intro i c k hM9; exact absurd hM9 (Nat.not_lt_zero _)
  | succ M ih =>
    intro i c k hi9 hi hc hk

    refine g_iload14 dL_isTold_277 ?_
    refine g_iload12 dL_isTold_279 ?_
    refine g_icmp_ge (tgt := 311) dL_isTold_281 (by decide) (fun h281 => ?_) (fun h281 => ?_)
    · skip
      have hin : i = mm := by have := idx_ge (by omega) (by omega) h281; omega
      refine g_iinc10 (v' := (nI (r + 1))) dL_isTold_311 (nI_1 r) ?_
      refine g_goto (tgt := 93) dL_isTold_314 (by decide) ?_
      exact hnext _ _ _ _ _ _ _ _ (by (try dsimp only [rm_L_account, rm_L_pages, rm_L_twice, rm_L_copies, rm_L_found, rm_L_read, rm_L_bundle, rm_L_sees, rm_L_low, rm_L_lines, rm_L_at, rm_L_isThere, rm_L_length, rm_X5_isThere, rm_X5_kind, rm_X5_length, rm_X5_documents]); omega) (by (try dsimp only [rm_L_account, rm_L_pages, rm_L_twice, rm_L_copies, rm_L_found, rm_L_read, rm_L_bundle, rm_L_sees, rm_L_low, rm_L_lines, rm_L_at, rm_L_isThere, rm_L_length, rm_X5_isThere, rm_X5_kind, rm_X5_length, rm_X5_documents]); omega)
    · skip
      have hlt : i < mm := by have := idx_lt (by omega) (by omega) h281; omega
      refine g_aload0 dL_isTold_284 ?_
      refine g_iload10 dL_isTold_285 ?_
      refine g_iload14 dL_isTold_287 ?_
      refine g_callSW3 (lw_copies_v hb (kn_copies_c hI hr e15 (by omega) e16 (by omega) hlt)) md_L_copies dL_isTold_289 ml_L_146 st_L_copies (RmOk.of (Nat.le_of_ble_eq_true rfl) (Nat.le_of_ble_eq_true rfl) (Nat.le_of_ble_eq_true rfl) (by (try dsimp only [rm_L_isTold, rm_L_copies]); omega) (by (try dsimp only [rm_L_isTold, rm_L_copies]); omega)) (kr_V ?_) kx_V
      refine g_aload4 dL_isTold_292 ?_
      refine g_iload11 dL_isTold_294 ?_
      refine g_iload14 dL_isTold_296 ?_
      refine g_iadd dL_isTold_298 ?_
      rw [nI_add]
      refine g_jiald (k := 2) hM (by decide) (by decide) dL_isTold_299 (show _ < 60 from by omega) ?_
      refine g_icmp_eq_t (tgt := 305) dL_isTold_300 (by decide) ((hP (f + i) (by omega)).1.symm) ?_
      refine g_iinc14 (v' := (nI (i + 1))) dL_isTold_305 (nI_1 i) ?_
      refine g_goto (tgt := 277) dL_isTold_308 (by decide) ?_
      exact ih (i + 1) _ _ (by omega) (by omega) (by (try dsimp only [rm_L_account, rm_L_pages, rm_L_twice, rm_L_copies, rm_L_found, rm_L_read, rm_L_bundle, rm_L_sees, rm_L_low, rm_L_lines, rm_L_at, rm_L_isThere, rm_L_length, rm_X5_isThere, rm_X5_kind, rm_X5_length, rm_X5_documents]); omega) (by (try dsimp only [rm_L_account, rm_L_pages, rm_L_twice, rm_L_copies, rm_L_found, rm_L_read, rm_L_bundle, rm_L_sees, rm_L_low, rm_L_lines, rm_L_at, rm_L_isThere, rm_L_length, rm_X5_isThere, rm_X5_kind, rm_X5_length, rm_X5_documents]); omega)

set_option maxRecDepth 100000 in
theorem it_B4 {G : Gx} {C : Cx} {X : Nat → Prop} {am : Nat → Nat} {w : Wd} {kp : Nat} {FJ : Nat → Nat → Int64} {FI : Nat → Nat → Int32} {N : Nat → Nat} {A : Nat → Nat → Int32} {y z : Int32} (hI : Inv0 G X w kp N A w) (hM : LA G am w FJ FI w) (hJ : JJ N A FJ FI) {r f mm dy : Nat} (hr : r < N 13) (hdy : dy ≤ 9999) (hm1 : 1 ≤ mm) (hfm : f + mm ≤ N 6) (e15 : A 15 r = nI f) (e16 : A 16 r = nI mm) (e14 : A 14 r = nI dy) (e3 : FI 3 r = nI (f + 64 * mm + 4096 * dy)) {c k : Nat} {x14 x15 x16 x17 x18 x19 x20 x21 : Option Value} (hc : c ≤ 480 + 125 * r) (hk : k ≤ 2880 + 750 * r) (hnext : ∀ (c2 k2 : Nat) (x11 x12 x13 x14 x15 x16 : Option Value), c2 ≤ 480 + 125 * (r + 1) → k2 ≤ 2880 + 750 * (r + 1) → Go G rm_L_isTold cL_isTold RL (some .boolean, "isTold", []) C (QP G rm_L_isTold (PV (.int 1) w) C) 93 [some (.ref kp), some (.int y), some (.int z), some (.ref (am 1)), some (.ref (am 2)), some (.ref (am 3)), some (.ref (am 5)), some (.ref (am 6)), some (.ref (am 7)), some (.ref (am 10)), some (.int (nI (r + 1))), x11, x12, x13, x14, x15, x16, x17, x18, x19, x20, x21] [] w c2 k2) : Go G rm_L_isTold cL_isTold RL ((some .boolean), "isTold", []) C (QP G rm_L_isTold (PV (.int 1) w) C) 237 [some (.ref kp), some (.int y), some (.int z), some (.ref (am 1)), some (.ref (am 2)), some (.ref (am 3)), some (.ref (am 5)), some (.ref (am 6)), some (.ref (am 7)), some (.ref (am 10)), some (.int (nI r)), some (.int (nI f)), some (.int (nI mm)), some (.int (fdn (fun x => ruE A x r) r r)), x14, x15, x16, x17, x18, x19, x20, x21] [] w c k := by
  have hJ0 := hJ
  obtain ⟨⟨G0, G1, G2, G3, G4, G5⟩, hB, hO, hP, hF, hR, hD, hV, hS, hT⟩ := hJ0
  obtain ⟨b1, b2, b3, b4, b5, b6⟩ := id hB
  have hb := hI.g0
  obtain ⟨fs0, hb0⟩ := hI.g0
  refine g_aload0 dL_isTold_237 ?_
  refine g_iload10 dL_isTold_238 ?_
  refine g_callSW2 (lw_pages_v hb (kn_pages_b hI hr)) md_L_pages dL_isTold_240 ml_L_142 st_L_pages (RmOk.of (Nat.le_of_ble_eq_true rfl) (Nat.le_of_ble_eq_true rfl) (Nat.le_of_ble_eq_true rfl) (by (try dsimp only [rm_L_isTold, rm_L_pages]); omega) (by (try dsimp only [rm_L_isTold, rm_L_pages]); omega)) (kr_V ?_) kx_V
  refine g_iload12 dL_isTold_243 ?_
  refine g_icmp_ne_f (tgt := 272) dL_isTold_245 (by decide) e16 ?_
  refine g_aload0 dL_isTold_248 ?_
  refine g_iload10 dL_isTold_249 ?_
  refine g_callSW2 (lw_twice_v hb (kn_twice_b hI hr)) md_L_twice dL_isTold_251 ml_L_144 st_L_twice (RmOk.of (Nat.le_of_ble_eq_true rfl) (Nat.le_of_ble_eq_true rfl) (Nat.le_of_ble_eq_true rfl) (by (try dsimp only [rm_L_isTold, rm_L_pages, rm_L_twice]); omega) (by (try dsimp only [rm_L_isTold, rm_L_pages, rm_L_twice]); omega)) (kr_V ?_) kx_V
  refine g_iload13 dL_isTold_254 ?_
  refine g_icmp_ne_f (tgt := 272) dL_isTold_256 (by decide) rfl ?_
  refine g_aload0 dL_isTold_259 ?_
  refine g_iload10 dL_isTold_260 ?_
  refine g_iload12 dL_isTold_262 ?_
  refine g_callSW3 (lw_copies_IOOB hb (kn_copies_b hI hr e16 (inb_out (by omega)))) md_L_copies dL_isTold_264 ml_L_146 st_L_copies (RmOk.of (Nat.le_of_ble_eq_true rfl) (Nat.le_of_ble_eq_true rfl) (Nat.le_of_ble_eq_true rfl) (by (try dsimp only [rm_L_isTold, rm_L_pages, rm_L_twice, rm_L_copies]); omega) (by (try dsimp only [rm_L_isTold, rm_L_pages, rm_L_twice, rm_L_copies]); omega)) (kr_V ?_) kx_V
  refine g_bipush (v := (-73)) dL_isTold_267 (by decide) ?_
  refine g_icmp_eq_t (tgt := 274) dL_isTold_269 (by decide) (by decide) ?_
  refine g_iconst (v := 0) dL_isTold_274 (by decide) ?_
  refine g_istore14 dL_isTold_275 ?_
  exact it_B5 hI hM hJ hr hdy hm1 hfm e15 e16 e14 e3 hnext (mm + 1) 0 _ _ (by omega) (Nat.zero_le _) (by (try dsimp only [rm_L_account, rm_L_pages, rm_L_twice, rm_L_copies, rm_L_found, rm_L_read, rm_L_bundle, rm_L_sees, rm_L_low, rm_L_lines, rm_L_at, rm_L_isThere, rm_L_length, rm_X5_isThere, rm_X5_kind, rm_X5_length, rm_X5_documents]); omega) (by (try dsimp only [rm_L_account, rm_L_pages, rm_L_twice, rm_L_copies, rm_L_found, rm_L_read, rm_L_bundle, rm_L_sees, rm_L_low, rm_L_lines, rm_L_at, rm_L_isThere, rm_L_length, rm_X5_isThere, rm_X5_kind, rm_X5_length, rm_X5_documents]); omega)

set_option maxRecDepth 100000 in
theorem it_B3 {G : Gx} {C : Cx} {X : Nat → Prop} {am : Nat → Nat} {w : Wd} {kp : Nat} {FJ : Nat → Nat → Int64} {FI : Nat → Nat → Int32} {N : Nat → Nat} {A : Nat → Nat → Int32} {y z : Int32} (hI : Inv0 G X w kp N A w) (hM : LA G am w FJ FI w) (hJ : JJ N A FJ FI) {r f mm dy : Nat} (hr : r < N 13) (hdy : dy ≤ 9999) (hm1 : 1 ≤ mm) (hfm : f + mm ≤ N 6) (e15 : A 15 r = nI f) (e16 : A 16 r = nI mm) (e14 : A 14 r = nI dy) (e3 : FI 3 r = nI (f + 64 * mm + 4096 * dy)) {x fx mx dyx : Nat} (hx : x < N 13) (hdyx : dyx ≤ 9999) (hmx1 : 1 ≤ mx) (hfmx : fx + mx ≤ N 6) (x15e : A 15 x = nI fx) (x16e : A 16 x = nI mx) (x14e : A 14 x = nI dyx) (x3e : FI 3 x = nI (fx + 64 * mx + 4096 * dyx)) {c k : Nat} {T : Int32} {x17 x18 x19 x20 x21 : Option Value} (hnext : ∀ (x16 : Option Value), Go G rm_L_isTold cL_isTold RL (some .boolean, "isTold", []) C (QP G rm_L_isTold (PV (.int 1) w) C) 217 [some (.ref kp), some (.int y), some (.int z), some (.ref (am 1)), some (.ref (am 2)), some (.ref (am 3)), some (.ref (am 5)), some (.ref (am 6)), some (.ref (am 7)), some (.ref (am 10)), some (.int (nI r)), some (.int (nI f)), some (.int (nI mm)), some (.int T), some (.int (nI x)), some (.int (bI (ruE A x r))), x16, x17, x18, x19, x20, x21] [] w c k) : ∀ (M i : Nat) (s : Bool), mm - i < M → i ≤ mm → (s = true → A 14 x = A 14 r ∧ A 16 x = A 16 r ∧ allB (fun q => pgE A (fx + q) (f + q)) i = true) → (s = false → ruE A x r = false) → Go G rm_L_isTold cL_isTold RL (some .boolean, "isTold", []) C (QP G rm_L_isTold (PV (.int 1) w) C) 168 [some (.ref kp), some (.int y), some (.int z), some (.ref (am 1)), some (.ref (am 2)), some (.ref (am 3)), some (.ref (am 5)), some (.ref (am 6)), some (.ref (am 7)), some (.ref (am 10)), some (.int (nI r)), some (.int (nI f)), some (.int (nI mm)), some (.int T), some (.int (nI x)), some (.int (bI s)), some (.int (nI i)), x17, x18, x19, x20, x21] [] w c k := by
  have hJ0 := hJ
  obtain ⟨⟨G0, G1, G2, G3, G4, G5⟩, hB, hO, hP, hF, hR, hD, hV, hS, hT⟩ := hJ0
  obtain ⟨b1, b2, b3, b4, b5, b6⟩ := id hB
  have hb := hI.g0
  obtain ⟨fs0, hb0⟩ := hI.g0
  have eru : ruE A x r = ((decide (A 14 x = A 14 r) && decide (A 16 x = A 16 r)) && allB (fun q => pgE A (fx + q) (f + q)) mx) := ruE_at x15e e15 x16e (by omega) (by omega) (by omega)
  intro M
  induction M with
  | zero => intro i s hM9; exact absurd hM9 (Nat.not_lt_zero _)
  | succ M ih =>
    intro i s hi9 hi h1 h0
    cases s with
    | true =>
      refine g_iload16 dL_isTold_168 ?_
      refine g_iload12 dL_isTold_170 ?_
      refine g_icmp_ge (tgt := 217) dL_isTold_172 (by decide) (fun h172 => ?_) (fun h172 => ?_)
      · skip
        have hin : i = mm := by have := idx_ge (by omega) (by omega) h172; omega
        have e9 : ruE A x r = true := by
          obtain ⟨q1, q2, q3⟩ := h1 rfl
          have q4 : mx = mm := (nI_eq (by omega) (by omega)).mp (x16e.symm.trans (q2.trans e16))
          rw [eru, decide_eq_true q1, decide_eq_true q2, q4, ← hin, q3]; rfl
        rw [e9] at hnext
        exact hnext _
      · skip
        have hlt : i < mm := by have := idx_lt (by omega) (by omega) h172; omega
        have q44 : mx = mm := (nI_eq (by omega) (by omega)).mp (x16e.symm.trans ((h1 rfl).2.1.trans e16))
        refine g_iload15 dL_isTold_175 ?_
        refine g_if_eq_f (tgt := 217) dL_isTold_177 (by decide) (by decide) ?_
        refine g_aload3 dL_isTold_180 ?_
        refine g_aload5 dL_isTold_181 ?_
        refine g_iload14 dL_isTold_183 ?_
        refine g_jiald (k := 3) hM (by decide) (by decide) dL_isTold_185 (show _ < 15 from by omega) ?_
        rw [x3e]
        refine g_bipush (v := 63) dL_isTold_186 (by decide) ?_
        refine g_iand dL_isTold_188 ?_
        rw [(pd_r hdyx (show fx < 64 by omega) (show mx < 64 by omega)).1]
        refine g_iload16 dL_isTold_189 ?_
        refine g_iadd dL_isTold_191 ?_
        rw [nI_add]
        refine g_jlald (k := 1) hM (by decide) dL_isTold_192 (show _ < 60 from by omega) ?_
        refine g_aload3 dL_isTold_193 ?_
        refine g_iload11 dL_isTold_194 ?_
        refine g_iload16 dL_isTold_196 ?_
        refine g_iadd dL_isTold_198 ?_
        rw [nI_add]
        refine g_jlald (k := 1) hM (by decide) dL_isTold_199 (show _ < 60 from by omega) ?_
        refine g_lcmp dL_isTold_200 ?_
        refine g_if_ne (tgt := 208) dL_isTold_201 (by decide) (fun h201 => ?_) (fun h201 => ?_)
        · skip
          have hpg : pgE A (fx + i) (f + i) = false := by
            cases hq : pgE A (fx + i) (f + i) with
            | false => rfl
            | true => exact absurd ((lg_cmp_eq _ _).mpr ((pgE_iff hP (by omega) (by omega)).mpr hq)) h201
          refine g_iconst (v := 0) dL_isTold_208 (by decide) ?_
          refine g_istore15 dL_isTold_209 ?_
          refine g_iinc16 (v' := (nI (i + 1))) dL_isTold_211 (nI_1 i) ?_
          refine g_goto (tgt := 168) dL_isTold_214 (by decide) ?_
          exact ih (i + 1) false (by omega) (by omega) (fun q => nomatch q) (fun _ => by
            obtain ⟨q1, q2, q3⟩ := h1 rfl
            have q4 : mx = mm := (nI_eq (by omega) (by omega)).mp (x16e.symm.trans (q2.trans e16))
            rw [eru, allB_0 (k := i) (by omega) hpg, Bool.and_false])
        · skip
          have hpg : pgE A (fx + i) (f + i) = true := (pgE_iff hP (by omega) (by omega)).mp ((lg_cmp_eq _ _).mp h201)
          refine g_iconst (v := 1) dL_isTold_204 (by decide) ?_
          refine g_goto (tgt := 209) dL_isTold_205 (by decide) ?_
          refine g_istore15 dL_isTold_209 ?_
          refine g_iinc16 (v' := (nI (i + 1))) dL_isTold_211 (nI_1 i) ?_
          refine g_goto (tgt := 168) dL_isTold_214 (by decide) ?_
          exact ih (i + 1) true (by omega) (by omega) (fun _ => ⟨(h1 rfl).1, (h1 rfl).2.1, (show (allB (fun q => pgE A (fx + q) (f + q)) i && pgE A (fx + i) (f + i)) = true by rw [(h1 rfl).2.2, hpg]; rfl)⟩) (fun q => nomatch q)
    | false =>
      refine g_iload16 dL_isTold_168 ?_
      refine g_iload12 dL_isTold_170 ?_
      refine g_icmp_ge (tgt := 217) dL_isTold_172 (by decide) (fun h172 => ?_) (fun h172 => ?_)
      · skip
        have hin : i = mm := by have := idx_ge (by omega) (by omega) h172; omega
        rw [h0 rfl] at hnext
        exact hnext _
      · skip
        have hlt : i < mm := by have := idx_lt (by omega) (by omega) h172; omega
        refine g_iload15 dL_isTold_175 ?_
        refine g_if_eq_t (tgt := 217) dL_isTold_177 (by decide) rfl ?_
        rw [h0 rfl] at hnext
        exact hnext _

set_option maxRecDepth 100000 in
theorem it_B2b {G : Gx} {C : Cx} {X : Nat → Prop} {am : Nat → Nat} {w : Wd} {kp : Nat} {FJ : Nat → Nat → Int64} {FI : Nat → Nat → Int32} {N : Nat → Nat} {A : Nat → Nat → Int32} {y z : Int32} (hI : Inv0 G X w kp N A w) (hM : LA G am w FJ FI w) (hJ : JJ N A FJ FI) {r f mm x c k : Nat} {x16 x17 x18 x19 x20 x21 : Option Value} (hx : x < r) (hr : r < N 13) (hnext : ∀ (x15 x16 : Option Value), Go G rm_L_isTold cL_isTold RL (some .boolean, "isTold", []) C (QP G rm_L_isTold (PV (.int 1) w) C) 134 [some (.ref kp), some (.int y), some (.int z), some (.ref (am 1)), some (.ref (am 2)), some (.ref (am 3)), some (.ref (am 5)), some (.ref (am 6)), some (.ref (am 7)), some (.ref (am 10)), some (.int (nI r)), some (.int (nI f)), some (.int (nI mm)), some (.int (fdn (fun x => ruE A x r) r (r - x))), some (.int (nI x - 1)), x15, x16, x17, x18, x19, x20, x21] [] w c k) : Go G rm_L_isTold cL_isTold RL ((some .boolean), "isTold", []) C (QP G rm_L_isTold (PV (.int 1) w) C) 217 [some (.ref kp), some (.int y), some (.int z), some (.ref (am 1)), some (.ref (am 2)), some (.ref (am 3)), some (.ref (am 5)), some (.ref (am 6)), some (.ref (am 7)), some (.ref (am 10)), some (.int (nI r)), some (.int (nI f)), some (.int (nI mm)), some (.int (fdn (fun x => ruE A x r) r (r - (x + 1)))), some (.int (nI x)), some (.int (bI (ruE A x r))), x16, x17, x18, x19, x20, x21] [] w c k := by
  have hJ0 := hJ
  obtain ⟨⟨G0, G1, G2, G3, G4, G5⟩, hB, hO, hP, hF, hR, hD, hV, hS, hT⟩ := hJ0
  obtain ⟨b1, b2, b3, b4, b5, b6⟩ := id hB
  have hb := hI.g0
  obtain ⟨fs0, hb0⟩ := hI.g0
  refine g_iload15 dL_isTold_217 ?_
  refine g_if_eq (tgt := 227) dL_isTold_219 (by decide) (fun h219 => ?_) (fun h219 => ?_)
  · skip
    have e9 : fdn (fun x => ruE A x r) r (r - x) = fdn (fun x => ruE A x r) r (r - (x + 1)) := by
      rw [show r - x = r - (x + 1) + 1 by omega]
      show (if (fun x => ruE A x r) (r - (r - (x + 1) + 1)) = true then _ else _) = _
      rw [show r - (r - (x + 1) + 1) = x by omega, if_neg (by rw [show (fun x => ruE A x r) x = ruE A x r from rfl, bI_0.mp h219]; decide)]
    rw [e9] at hnext
    refine g_iload13 dL_isTold_227 ?_
    refine g_istore13 dL_isTold_229 ?_
    refine g_iinc14 (v' := (nI x - 1)) dL_isTold_231 (dec1 _) ?_
    refine g_goto (tgt := 134) dL_isTold_234 (by decide) ?_
    exact hnext _ _
  · skip
    have e9 : fdn (fun x => ruE A x r) r (r - x) = nI x := by
      rw [show r - x = r - (x + 1) + 1 by omega]
      show (if (fun x => ruE A x r) (r - (r - (x + 1) + 1)) = true then _ else _) = _
      rw [show r - (r - (x + 1) + 1) = x by omega, if_pos (bI_n.mp h219)]
    rw [e9] at hnext
    refine g_iload14 dL_isTold_222 ?_
    refine g_goto (tgt := 229) dL_isTold_224 (by decide) ?_
    refine g_istore13 dL_isTold_229 ?_
    refine g_iinc14 (v' := (nI x - 1)) dL_isTold_231 (dec1 _) ?_
    refine g_goto (tgt := 134) dL_isTold_234 (by decide) ?_
    exact hnext _ _

set_option maxRecDepth 100000 in
theorem it_B2 {G : Gx} {C : Cx} {X : Nat → Prop} {am : Nat → Nat} {w : Wd} {kp : Nat} {FJ : Nat → Nat → Int64} {FI : Nat → Nat → Int32} {N : Nat → Nat} {A : Nat → Nat → Int32} {y z : Int32} (hI : Inv0 G X w kp N A w) (hM : LA G am w FJ FI w) (hJ : JJ N A FJ FI) {r f mm dy : Nat} (hr : r < N 13) (hdy : dy ≤ 9999) (hm1 : 1 ≤ mm) (hfm : f + mm ≤ N 6) (e15 : A 15 r = nI f) (e16 : A 16 r = nI mm) (e14 : A 14 r = nI dy) (e3 : FI 3 r = nI (f + 64 * mm + 4096 * dy)) {c k : Nat} {x17 x18 x19 x20 x21 : Option Value} (hc : c ≤ 480 + 125 * r) (hk : k ≤ 2880 + 750 * r) (hnext : ∀ (c2 k2 : Nat) (x11 x12 x13 x14 x15 x16 : Option Value), c2 ≤ 480 + 125 * (r + 1) → k2 ≤ 2880 + 750 * (r + 1) → Go G rm_L_isTold cL_isTold RL (some .boolean, "isTold", []) C (QP G rm_L_isTold (PV (.int 1) w) C) 93 [some (.ref kp), some (.int y), some (.int z), some (.ref (am 1)), some (.ref (am 2)), some (.ref (am 3)), some (.ref (am 5)), some (.ref (am 6)), some (.ref (am 7)), some (.ref (am 10)), some (.int (nI (r + 1))), x11, x12, x13, x14, x15, x16, x17, x18, x19, x20, x21] [] w c2 k2) : ∀ (cc : Nat), cc ≤ r → ∀ (x15 x16 : Option Value), Go G rm_L_isTold cL_isTold RL (some .boolean, "isTold", []) C (QP G rm_L_isTold (PV (.int 1) w) C) 134 [some (.ref kp), some (.int y), some (.int z), some (.ref (am 1)), some (.ref (am 2)), some (.ref (am 3)), some (.ref (am 5)), some (.ref (am 6)), some (.ref (am 7)), some (.ref (am 10)), some (.int (nI r)), some (.int (nI f)), some (.int (nI mm)), some (.int (fdn (fun x => ruE A x r) r (r - cc))), some (.int (nI cc - 1)), x15, x16, x17, x18, x19, x20, x21] [] w c k := by
  have hJ0 := hJ
  obtain ⟨⟨G0, G1, G2, G3, G4, G5⟩, hB, hO, hP, hF, hR, hD, hV, hS, hT⟩ := hJ0
  obtain ⟨b1, b2, b3, b4, b5, b6⟩ := id hB
  have hb := hI.g0
  obtain ⟨fs0, hb0⟩ := hI.g0
  intro cc
  induction cc with
  | zero =>
    intro hcc x15 x16
    refine g_iload14 dL_isTold_134 ?_
    refine g_if_lt_t (tgt := 237) dL_isTold_136 (by decide) (by decide) ?_
    exact it_B4 hI hM hJ hr hdy hm1 hfm e15 e16 e14 e3 hc hk hnext
  | succ x ih =>
    intro hcc x15 x16
    rw [nI_pred]
    obtain ⟨fx, mx, dyx, hdyx, hmx1, hfmx, x15e, x16e, x14e, x3e⟩ := hR x (by omega)
    refine g_iload14 dL_isTold_134 ?_
    refine g_if_lt_f (tgt := 237) dL_isTold_136 (by decide) (nI_pos (by omega)) ?_
    refine g_aload5 dL_isTold_139 ?_
    refine g_iload14 dL_isTold_141 ?_
    refine g_jiald (k := 3) hM (by decide) (by decide) dL_isTold_143 (show _ < 15 from by omega) ?_
    rw [x3e]
    refine g_bipush (v := 6) dL_isTold_144 (by decide) ?_
    refine g_ishr dL_isTold_146 ?_
    rw [(pd_r hdyx (show fx < 64 by omega) (show mx < 64 by omega)).2.2.2]
    refine g_aload5 dL_isTold_147 ?_
    refine g_iload10 dL_isTold_149 ?_
    refine g_jiald (k := 3) hM (by decide) (by decide) dL_isTold_151 (show _ < 15 from by omega) ?_
    rw [e3]
    refine g_bipush (v := 6) dL_isTold_152 (by decide) ?_
    refine g_ishr dL_isTold_154 ?_
    rw [(pd_r hdy (show f < 64 by omega) (show mm < 64 by omega)).2.2.2]
    refine g_icmp_ne (tgt := 162) dL_isTold_155 (by decide) (fun h155 => ?_) (fun h155 => ?_)
    · skip
      refine g_iconst (v := 0) dL_isTold_162 (by decide) ?_
      refine g_istore15 dL_isTold_163 ?_
      refine g_iconst (v := 0) dL_isTold_165 (by decide) ?_
      refine g_istore16 dL_isTold_166 ?_
      exact it_B3 hI hM hJ hr hdy hm1 hfm e15 e16 e14 e3 (show x < N 13 by omega) hdyx hmx1 hfmx x15e x16e x14e x3e (fun x16 => it_B2b hI hM hJ (show x < r by omega) hr (fun x15 x16 => ih (by omega) x15 x16)) (mm + 1) 0 false (by omega) (Nat.zero_le _) (fun q => nomatch q) (fun _ => by
        cases hq : ruE A x r with
        | false => rfl
        | true =>
          rw [ruE_at x15e e15 x16e (by omega) (by omega) (by omega), Bool.and_eq_true, Bool.and_eq_true, decide_eq_true_eq, decide_eq_true_eq] at hq
          have q1 := (nI_eq (by omega) (by omega)).mp (x14e.symm.trans (hq.1.1.trans e14))
          have q2 := (nI_eq (by omega) (by omega)).mp (x16e.symm.trans (hq.1.2.trans e16))
          exact absurd (by rw [q1, q2]) h155)
    · skip
      refine g_iconst (v := 1) dL_isTold_158 (by decide) ?_
      refine g_goto (tgt := 163) dL_isTold_159 (by decide) ?_
      refine g_istore15 dL_isTold_163 ?_
      refine g_iconst (v := 0) dL_isTold_165 (by decide) ?_
      refine g_istore16 dL_isTold_166 ?_
      have q9 := (nI_eq (by omega) (by omega)).mp h155
      exact it_B3 hI hM hJ hr hdy hm1 hfm e15 e16 e14 e3 (show x < N 13 by omega) hdyx hmx1 hfmx x15e x16e x14e x3e (fun x16 => it_B2b hI hM hJ (show x < r by omega) hr (fun x15 x16 => ih (by omega) x15 x16)) (mm + 1) 0 true (by omega) (Nat.zero_le _) (fun _ => ⟨by rw [x14e, e14]; congr 1; omega, by rw [x16e, e16]; congr 1; omega, rfl⟩) (fun q => nomatch q)

set_option maxRecDepth 100000 in
theorem it_B {G : Gx} {C : Cx} {X : Nat → Prop} {am : Nat → Nat} {w : Wd} {kp : Nat} {FJ : Nat → Nat → Int64} {FI : Nat → Nat → Int32} {N : Nat → Nat} {A : Nat → Nat → Int32} {y z : Int32} (hI : Inv0 G X w kp N A w) (hM : LA G am w FJ FI w) (hJ : JJ N A FJ FI) {x17 x18 x19 x20 x21 : Option Value} : ∀ (M : Nat) (r : Nat) (c : Nat) (k : Nat) (x11 : Option Value) (x12 : Option Value) (x13 : Option Value) (x14 : Option Value) (x15 : Option Value) (x16 : Option Value), N 13 - r < M → r ≤ N 13 → c ≤ 480 + 125 * r → k ≤ 2880 + 750 * r → Go G rm_L_isTold cL_isTold RL (some .boolean, "isTold", []) C (QP G rm_L_isTold (PV (.int 1) w) C) 93 [some (.ref kp), some (.int y), some (.int z), some (.ref (am 1)), some (.ref (am 2)), some (.ref (am 3)), some (.ref (am 5)), some (.ref (am 6)), some (.ref (am 7)), some (.ref (am 10)), some (.int (nI r)), x11, x12, x13, x14, x15, x16, x17, x18, x19, x20, x21] [] w c k := by
  have hJ0 := hJ
  obtain ⟨⟨G0, G1, G2, G3, G4, G5⟩, hB, hO, hP, hF, hR, hD, hV, hS, hT⟩ := hJ0
  obtain ⟨b1, b2, b3, b4, b5, b6⟩ := id hB
  have hb := hI.g0
  obtain ⟨fs0, hb0⟩ := hI.g0
  intro M
  induction M with
  | zero => intro r c k x11 x12 x13 x14 x15 x16 hM9; exact absurd hM9 (Nat.not_lt_zero _)
  | succ M ih =>
    intro r c k x11 x12 x13 x14 x15 x16 hi9 hr9 hc hk

    refine g_iload10 dL_isTold_93 ?_
    refine g_aload9 dL_isTold_95 ?_
    refine g_iconst (v := 4) dL_isTold_97 (by decide) ?_
    refine g_jiald (k := 10) (i := 4) hM (by decide) (by decide) dL_isTold_98 (show _ < 6 from by omega) ?_
    rw [G4]
    refine g_icmp_ge (tgt := 317) dL_isTold_99 (by decide) (fun h99 => ?_) (fun h99 => ?_)
    · skip
      have hin : r = N 13 := by have := idx_ge (by omega) (by omega) h99; omega
      exact it_C0 hI hM hJ (by (try dsimp only [rm_L_account, rm_L_pages, rm_L_twice, rm_L_copies, rm_L_found, rm_L_read, rm_L_bundle, rm_L_sees, rm_L_low, rm_L_lines, rm_L_at, rm_L_isThere, rm_L_length, rm_X5_isThere, rm_X5_kind, rm_X5_length, rm_X5_documents]); omega) (by (try dsimp only [rm_L_account, rm_L_pages, rm_L_twice, rm_L_copies, rm_L_found, rm_L_read, rm_L_bundle, rm_L_sees, rm_L_low, rm_L_lines, rm_L_at, rm_L_isThere, rm_L_length, rm_X5_isThere, rm_X5_kind, rm_X5_length, rm_X5_documents]); omega)
    · skip
      have hr : r < N 13 := by have := idx_lt (by omega) (by omega) h99; omega
      obtain ⟨f, mm, dy, hdy, hm1, hfm, e15, e16, e14, e3⟩ := hR r hr
      refine g_aload5 dL_isTold_102 ?_
      refine g_iload10 dL_isTold_104 ?_
      refine g_jiald (k := 3) hM (by decide) (by decide) dL_isTold_106 (show _ < 15 from by omega) ?_
      rw [e3]
      refine g_bipush (v := 63) dL_isTold_107 (by decide) ?_
      refine g_iand dL_isTold_109 ?_
      rw [(pd_r hdy (show f < 64 by omega) (show mm < 64 by omega)).1]
      refine g_istore11 dL_isTold_110 ?_
      refine g_aload5 dL_isTold_112 ?_
      refine g_iload10 dL_isTold_114 ?_
      refine g_jiald (k := 3) hM (by decide) (by decide) dL_isTold_116 (show _ < 15 from by omega) ?_
      rw [e3]
      refine g_bipush (v := 6) dL_isTold_117 (by decide) ?_
      refine g_ishr dL_isTold_119 ?_
      refine g_bipush (v := 63) dL_isTold_120 (by decide) ?_
      refine g_iand dL_isTold_122 ?_
      rw [(pd_r hdy (show f < 64 by omega) (show mm < 64 by omega)).2.1]
      refine g_istore12 dL_isTold_123 ?_
      refine g_iconst (v := (-1)) dL_isTold_125 (by decide) ?_
      refine g_istore13 dL_isTold_126 ?_
      refine g_iload10 dL_isTold_128 ?_
      refine g_iconst (v := 1) dL_isTold_130 (by decide) ?_
      refine g_isub dL_isTold_131 ?_
      refine g_istore14 dL_isTold_132 ?_
      have h9 := it_B2 (C := C) (y := y) (z := z) (x17 := x17) (x18 := x18) (x19 := x19) (x20 := x20) (x21 := x21) hI hM hJ hr hdy hm1 hfm e15 e16 e14 e3 hc hk (fun c2 k2 x11 x12 x13 x14 x15 x16 q1 q2 => ih (r + 1) c2 k2 x11 x12 x13 x14 x15 x16 (by omega) (by omega) q1 q2) r (Nat.le_refl _) x15 x16
      rw [Nat.sub_self] at h9
      exact h9

set_option maxRecDepth 100000 in
theorem it_A {G : Gx} {C : Cx} {X : Nat → Prop} {am : Nat → Nat} {w : Wd} {kp : Nat} {FJ : Nat → Nat → Int64} {FI : Nat → Nat → Int32} {N : Nat → Nat} {A : Nat → Nat → Int32} {y z : Int32} (hI : Inv0 G X w kp N A w) (hM : LA G am w FJ FI w) (hJ : JJ N A FJ FI)  : ∀ (M : Nat) (i : Nat) (c : Nat) (k : Nat), N 17 - i < M → i ≤ N 17 → c ≤ 8 * i → k ≤ 48 * i → Go G rm_L_isTold cL_isTold RL (some .boolean, "isTold", []) C (QP G rm_L_isTold (PV (.int 1) w) C) 3 [some (.ref kp), some (.int y), some (.int z), some (.ref (am 1)), some (.ref (am 2)), some (.ref (am 3)), some (.ref (am 5)), some (.ref (am 6)), some (.ref (am 7)), some (.ref (am 10)), some (.int (nI i)), none, none, none, none, none, none, none, none, none, none, none] [] w c k := by
  have hJ0 := hJ
  obtain ⟨⟨G0, G1, G2, G3, G4, G5⟩, hB, hO, hP, hF, hR, hD, hV, hS, hT⟩ := hJ0
  obtain ⟨b1, b2, b3, b4, b5, b6⟩ := id hB
  have hb := hI.g0
  obtain ⟨fs0, hb0⟩ := hI.g0
  intro M
  induction M with
  | zero => intro i c k hM9; exact absurd hM9 (Nat.not_lt_zero _)
  | succ M ih =>
    intro i c k hi9 hi hc hk

    refine g_iload10 dL_isTold_3 ?_
    refine g_aload9 dL_isTold_5 ?_
    refine g_iconst (v := 5) dL_isTold_7 (by decide) ?_
    refine g_jiald (k := 10) (i := 5) hM (by decide) (by decide) dL_isTold_8 (show _ < 6 from by omega) ?_
    rw [G5]
    refine g_icmp_ge (tgt := 90) dL_isTold_9 (by decide) (fun h9 => ?_) (fun h9 => ?_)
    · skip
      have hin : i = N 17 := by have := idx_ge (by omega) (by omega) h9; omega
      refine g_iconst (v := 0) dL_isTold_90 (by decide) ?_
      refine g_istore10 dL_isTold_91 ?_
      exact it_B hI hM hJ (N 13 + 1) 0 c k _ _ _ _ _ _ (by omega) (Nat.zero_le _) (by (try dsimp only [rm_L_account, rm_L_pages, rm_L_twice, rm_L_copies, rm_L_found, rm_L_read, rm_L_bundle, rm_L_sees, rm_L_low, rm_L_lines, rm_L_at, rm_L_isThere, rm_L_length, rm_X5_isThere, rm_X5_kind, rm_X5_length, rm_X5_documents]); omega) (by (try dsimp only [rm_L_account, rm_L_pages, rm_L_twice, rm_L_copies, rm_L_found, rm_L_read, rm_L_bundle, rm_L_sees, rm_L_low, rm_L_lines, rm_L_at, rm_L_isThere, rm_L_length, rm_X5_isThere, rm_X5_kind, rm_X5_length, rm_X5_documents]); omega)
    · skip
      have hlt : i < N 17 := by have := idx_lt (by omega) (by omega) h9; omega
      obtain ⟨ac, ki, fp, ru, ln, a1, a2, a3, a4, a5, a6, a7, a8, a9, a10, a11, a12⟩ := hD i hlt
      refine g_aload0 dL_isTold_12 ?_
      refine g_iload10 dL_isTold_13 ?_
      refine g_callV1 kc6 (kn_isThere_b hI hlt) md_X5_isThere dL_isTold_15 ml_L_128 im_X5_isThere se_X5_isThere hb0 (RmOk.of (Nat.le_of_ble_eq_true rfl) (Nat.le_of_ble_eq_true rfl) (Nat.le_of_ble_eq_true rfl) (by (try dsimp only [rm_L_isTold, rm_X5_isThere]); omega) (by (try dsimp only [rm_L_isTold, rm_X5_isThere]); omega)) (kr_V ?_) kx_V
      refine g_aload7 dL_isTold_18 ?_
      refine g_iload10 dL_isTold_20 ?_
      refine g_callS2 (ct_isThere hM hB hlt (hD i hlt)) md_L_isThere dL_isTold_22 ml_L_81 st_L_isThere (RmOk.of (Nat.le_of_ble_eq_true rfl) (Nat.le_of_ble_eq_true rfl) (Nat.le_of_ble_eq_true rfl) (by (try dsimp only [rm_L_isTold, rm_X5_isThere, rm_L_isThere]); omega) (by (try dsimp only [rm_L_isTold, rm_X5_isThere, rm_L_isThere]); omega)) (kr_V ?_) kx_V
      refine g_icmp_ne_f (tgt := 82) dL_isTold_25 (by decide) rfl ?_
      refine g_aload0 dL_isTold_28 ?_
      refine g_iload10 dL_isTold_29 ?_
      refine g_callSW2 (lw_account_v hb (kn_account_b hI hlt)) md_L_account dL_isTold_31 ml_L_131 st_L_account (RmOk.of (Nat.le_of_ble_eq_true rfl) (Nat.le_of_ble_eq_true rfl) (Nat.le_of_ble_eq_true rfl) (by (try dsimp only [rm_L_isTold, rm_X5_isThere, rm_L_isThere, rm_L_account]); omega) (by (try dsimp only [rm_L_isTold, rm_X5_isThere, rm_L_isThere, rm_L_account]); omega)) (kr_V ?_) kx_V
      refine g_aload6 dL_isTold_34 ?_
      refine g_iload10 dL_isTold_36 ?_
      refine g_jiald (k := 5) hM (by decide) (by decide) dL_isTold_38 (show _ < 60 from by omega) ?_
      rw [a11]
      refine g_bipush (v := 127) dL_isTold_39 (by decide) ?_
      refine g_iand dL_isTold_41 ?_
      rw [(pd_d a1 a2 (show fp < 64 by omega) (show ru < 15 by omega)).1]
      refine g_iconst (v := 1) dL_isTold_42 (by decide) ?_
      refine g_isub dL_isTold_43 ?_
      refine g_icmp_ne_f (tgt := 82) dL_isTold_44 (by decide) a6 ?_
      refine g_aload0 dL_isTold_47 ?_
      refine g_iload10 dL_isTold_48 ?_
      refine g_callV1 kc6 (kn_kind_b hI hlt) md_X5_kind dL_isTold_50 ml_L_133 im_X5_kind se_X5_kind hb0 (RmOk.of (Nat.le_of_ble_eq_true rfl) (Nat.le_of_ble_eq_true rfl) (Nat.le_of_ble_eq_true rfl) (by (try dsimp only [rm_L_isTold, rm_X5_isThere, rm_L_isThere, rm_L_account, rm_X5_kind]); omega) (by (try dsimp only [rm_L_isTold, rm_X5_isThere, rm_L_isThere, rm_L_account, rm_X5_kind]); omega)) (kr_V ?_) kx_V
      refine g_aload6 dL_isTold_53 ?_
      refine g_iload10 dL_isTold_55 ?_
      refine g_jiald (k := 5) hM (by decide) (by decide) dL_isTold_57 (show _ < 60 from by omega) ?_
      rw [a11]
      refine g_bipush (v := 7) dL_isTold_58 (by decide) ?_
      refine g_ishr dL_isTold_60 ?_
      refine g_iconst (v := 3) dL_isTold_61 (by decide) ?_
      refine g_iand dL_isTold_62 ?_
      rw [(pd_d a1 a2 (show fp < 64 by omega) (show ru < 15 by omega)).2.1]
      refine g_icmp_ne_f (tgt := 82) dL_isTold_63 (by decide) a7 ?_
      refine g_aload0 dL_isTold_66 ?_
      refine g_iload10 dL_isTold_67 ?_
      refine g_callV1 kc6 (kn_length_b hI hlt) md_X5_length dL_isTold_69 ml_L_136 im_X5_length se_X5_length hb0 (RmOk.of (Nat.le_of_ble_eq_true rfl) (Nat.le_of_ble_eq_true rfl) (Nat.le_of_ble_eq_true rfl) (by (try dsimp only [rm_L_isTold, rm_X5_isThere, rm_L_isThere, rm_L_account, rm_X5_kind, rm_X5_length]); omega) (by (try dsimp only [rm_L_isTold, rm_X5_isThere, rm_L_isThere, rm_L_account, rm_X5_kind, rm_X5_length]); omega)) (kr_V ?_) kx_V
      refine g_aload7 dL_isTold_72 ?_
      refine g_iload10 dL_isTold_74 ?_
      refine g_callS2 (ct_length hM hB hlt (hD i hlt)) md_L_length dL_isTold_76 ml_L_139 st_L_length (RmOk.of (Nat.le_of_ble_eq_true rfl) (Nat.le_of_ble_eq_true rfl) (Nat.le_of_ble_eq_true rfl) (by (try dsimp only [rm_L_isTold, rm_X5_isThere, rm_L_isThere, rm_L_account, rm_X5_kind, rm_X5_length, rm_L_length]); omega) (by (try dsimp only [rm_L_isTold, rm_X5_isThere, rm_L_isThere, rm_L_account, rm_X5_kind, rm_X5_length, rm_L_length]); omega)) (kr_V ?_) kx_V
      refine g_icmp_eq_t (tgt := 84) dL_isTold_79 (by decide) rfl ?_
      refine g_iinc10 (v' := (nI (i + 1))) dL_isTold_84 (nI_1 i) ?_
      refine g_goto (tgt := 3) dL_isTold_87 (by decide) ?_
      exact ih (i + 1) _ _ (by omega) (by omega) (by (try dsimp only [rm_L_account, rm_L_pages, rm_L_twice, rm_L_copies, rm_L_found, rm_L_read, rm_L_bundle, rm_L_sees, rm_L_low, rm_L_lines, rm_L_at, rm_L_isThere, rm_L_length, rm_X5_isThere, rm_X5_kind, rm_X5_length, rm_X5_documents]); omega) (by (try dsimp only [rm_L_account, rm_L_pages, rm_L_twice, rm_L_copies, rm_L_found, rm_L_read, rm_L_bundle, rm_L_sees, rm_L_low, rm_L_lines, rm_L_at, rm_L_isThere, rm_L_length, rm_X5_isThere, rm_X5_kind, rm_X5_length, rm_X5_documents]); omega)

set_option maxRecDepth 100000 in
theorem ct_told {G : Gx} {X : Nat → Prop} {am : Nat → Nat} {w : Wd} {kp : Nat} {FJ : Nat → Nat → Int64} {FI : Nat → Nat → Int32} {N : Nat → Nat} {A : Nat → Nat → Int32} {y z : Int32} (hI : Inv0 G X w kp N A w) (hM : LA G am w FJ FI w) (hJ : JJ N A FJ FI) : Ct G yL_isTold kw_L_isTold rm_L_isTold [.ref kp, .int y, .int z, .ref (am 1), .ref (am 2), .ref (am 3), .ref (am 5), .ref (am 6), .ref (am 7), .ref (am 10)] w (PV (.int 1) w) := by
  refine ct_intro RL "isTold" (by decide +kernel) rfl rfl rfl (Nat.le_of_ble_eq_true rfl) [some (.ref kp), some (.int y), some (.int z), some (.ref (am 1)), some (.ref (am 2)), some (.ref (am 3)), some (.ref (am 5)), some (.ref (am 6)), some (.ref (am 7)), some (.ref (am 10)), none, none, none, none, none, none, none, none, none, none, none, none] rfl (fun C => ?_)
  refine g_iconst (v := 0) dL_isTold_0 (by decide) ?_
  refine g_istore10 dL_isTold_1 ?_
  exact it_A hI hM hJ (N 17 + 1) 0 0 0 (by omega) (Nat.zero_le _) (Nat.zero_le _) (Nat.zero_le _)

