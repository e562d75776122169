/-! ArrayList.add, Arrays.fill. -/
abbrev rm_Jx4a65c_grow_92f84 (nl : Nat) : Room := { frames := 3, cells := 1, slots := nl, locals := 104 }
abbrev rm_Jx4a65c_grow_d5877 (nl : Nat) : Room := { frames := 4, cells := 1, slots := nl, locals := 127 }
abbrev rm_Jx4a65c_add_72be8 (nl : Nat) : Room := { frames := 5, cells := 1, slots := nl, locals := 147 }
abbrev rm_Jx4a65c_add_9ea2d (nl : Nat) : Room := { frames := 6, cells := 1, slots := nl, locals := 170 }
set_option maxRecDepth 100000 in
theorem ct_growI0 {G : Gx} {w : Wd} {a dd n nl ci N : Nat} {m : Int32} {el : Nat → Nat} {Cn : String} {T : u_T} {ty : Nat → FieldType} (hk : KC ci Cn T N ty) (hca : Cond.castable Cn "java/lang/Object" ∈ tw) (ha : w a = some (eO 0 [.int m, .ref dd, .int (nI n)])) (hb : (gH G).size ≤ a) (hd : w dd = some (eQ G n (lf n el))) (he : w (gE G) = some (eQ G 0 (fun _ => none))) (h0 : n = 0) (hdd : dd = gE G) (hnl : gcap n ≤ nl) (hel : ∀ i, i < n → ∃ vs, w (el i) = some (eO ci vs)) : Ct G yJx4a65c_grow_92f84 kw_Jx4a65c_grow_92f84 (rm_Jx4a65c_grow_92f84 nl) [.ref a, .int (nI (n + 1))] w (PR (fun q w' => w q = none ∧ (gH G).size ≤ q ∧ w' = up (up w q (eQ G (gcap n) (lf n el))) a (eO 0 [.int m, .ref q, .int (nI n)]))) := by
  have hg : gcap n = 10 := by rw [h0]; rfl
  have hz : lf n el = fun _ => none := by rw [h0]; funext j; exact if_neg (Nat.not_lt_zero j)
  refine ct_intro RJx4a65c "grow" (by decide +kernel) rfl rfl rfl (Nat.le_of_ble_eq_true rfl) [some (.ref a), some (.int (nI (n + 1))), none, none] rfl (fun C => ?_)
  refine g_aload0 dJx4a65c_grow_92f84_0 ?_
  refine g_getf kc0 dJx4a65c_grow_92f84_1 fl_Jx4a65c_9 (by decide) ha rfl ?_
  refine g_alenQ dJx4a65c_grow_92f84_4 hd ?_
  refine g_istore2 dJx4a65c_grow_92f84_5 ?_
  refine g_iload2 dJx4a65c_grow_92f84_6 ?_
  refine g_if_gt_f (tgt := 20) dJx4a65c_grow_92f84_7 (by decide) (by rw [h0]; decide) ?_
  refine g_aload0 dJx4a65c_grow_92f84_10 ?_
  refine g_getf kc0 dJx4a65c_grow_92f84_11 fl_Jx4a65c_9 (by decide) ha rfl ?_
  refine g_gsE dJx4a65c_grow_92f84_14 fs_Jx4a65c_39 ?_
  refine g_acmp_eq_t (tgt := 45) dJx4a65c_grow_92f84_17 (by decide) hdd ?_
  refine g_aload0 dJx4a65c_grow_92f84_45 ?_
  refine g_bipush (v := 10) dJx4a65c_grow_92f84_46 (by decide) ?_
  refine g_iload1 dJx4a65c_grow_92f84_48 ?_
  refine g_mmax (a := 10) (b := n + 1) (by decide) (by omega) dJx4a65c_grow_92f84_49 ml_Jx4a65c_79 (Nat.le_of_ble_eq_true rfl) (Nat.le_of_ble_eq_true rfl) (Nat.le_of_ble_eq_true rfl) (Nat.le_of_ble_eq_true rfl) ?_
  rw [Nat.max_eq_left (show n + 1 ≤ 10 by omega)]
  refine g_newQ (N := 10) dJx4a65c_grow_92f84_52 cl_Jx4a65c_7 (by decide) (by decide) (by decide) (Nat.le_of_ble_eq_true rfl) (by (try dsimp only [rm_Jx4a65c_grow_92f84]); omega) (fun q qn qb => ?_)
  have haq : a ≠ q := ne_of_new ha qn
  refine g_dup_x1 dJx4a65c_grow_92f84_55 rfl rfl ?_
  refine g_putf (fs' := [.int m, .ref q, .int (nI n)]) kc0 dJx4a65c_grow_92f84_56 fl_Jx4a65c_9 (by decide) rfl ((up_n haq).trans ha) hb rfl rfl (Nat.le_of_ble_eq_true rfl) rfl ?_
  refine g_aret (Or.inr ⟨_, rfl⟩) dJx4a65c_grow_92f84_59 ?_ (Nat.le_of_ble_eq_true rfl) (by (try dsimp only [rm_Jx4a65c_grow_92f84]); omega)
  refine ⟨q, rfl, qn, qb, ?_⟩
  rw [hg, hz]

set_option maxRecDepth 100000 in
theorem ct_growI1 {G : Gx} {w : Wd} {a dd n nl ci N : Nat} {m : Int32} {el : Nat → Nat} {Cn : String} {T : u_T} {ty : Nat → FieldType} (hk : KC ci Cn T N ty) (hca : Cond.castable Cn "java/lang/Object" ∈ tw) (ha : w a = some (eO 0 [.int m, .ref dd, .int (nI n)])) (hb : (gH G).size ≤ a) (hd : w dd = some (eQ G n (lf n el))) (he : w (gE G) = some (eQ G 0 (fun _ => none))) (h0 : 10 ≤ n) (h1 : n ≤ 20000) (hnl : gcap n ≤ nl) (hel : ∀ i, i < n → ∃ vs, w (el i) = some (eO ci vs)) : Ct G yJx4a65c_grow_92f84 kw_Jx4a65c_grow_92f84 (rm_Jx4a65c_grow_92f84 nl) [.ref a, .int (nI (n + 1))] w (PR (fun q w' => w q = none ∧ (gH G).size ≤ q ∧ w' = up (up w q (eQ G (gcap n) (lf n el))) a (eO 0 [.int m, .ref q, .int (nI n)]))) := by
  have hg : gcap n = n + n / 2 := if_neg (by omega)
  rw [hg] at hnl
  refine ct_intro RJx4a65c "grow" (by decide +kernel) rfl rfl rfl (Nat.le_of_ble_eq_true rfl) [some (.ref a), some (.int (nI (n + 1))), none, none] rfl (fun C => ?_)
  refine g_aload0 dJx4a65c_grow_92f84_0 ?_
  refine g_getf kc0 dJx4a65c_grow_92f84_1 fl_Jx4a65c_9 (by decide) ha rfl ?_
  refine g_alenQ dJx4a65c_grow_92f84_4 hd ?_
  refine g_istore2 dJx4a65c_grow_92f84_5 ?_
  refine g_iload2 dJx4a65c_grow_92f84_6 ?_
  refine g_if_gt_t (tgt := 20) dJx4a65c_grow_92f84_7 (by decide) (nI_lt (a := 0) (by omega) (by omega)) ?_
  refine g_iload2 dJx4a65c_grow_92f84_20 ?_
  refine g_iload1 dJx4a65c_grow_92f84_21 ?_
  refine g_iload2 dJx4a65c_grow_92f84_22 ?_
  refine g_isub dJx4a65c_grow_92f84_23 ?_
  rw [pk_sub (a := n + 1) (b := n) (by omega), show n + 1 - n = 1 by omega]
  refine g_iload2 dJx4a65c_grow_92f84_24 ?_
  refine g_iconst (v := 1) dJx4a65c_grow_92f84_25 (by decide) ?_
  refine g_ishr dJx4a65c_grow_92f84_26 ?_
  rw [show nI n >>> ((1 : Int32) &&& 31) = nI (n / 2) from pk_shrN (by omega) _ 1 (by decide)]
  refine g_callS3 (ct_newLen (cap := n) (by omega) (by omega)) md_J8_newLength_cabcc dJx4a65c_grow_92f84_27 ml_Jx4a65c_73 st_J8_newLength_cabcc (RmOk.of (Nat.le_of_ble_eq_true rfl) (Nat.le_of_ble_eq_true rfl) (Nat.le_of_ble_eq_true rfl) (Nat.le_of_ble_eq_true rfl) (by (try dsimp only [rm_Jx4a65c_grow_92f84, rm_J8_newLength_cabcc]); omega)) (kr_V ?_) kx_V
  refine g_istore3 dJx4a65c_grow_92f84_30 ?_
  refine g_aload0 dJx4a65c_grow_92f84_31 ?_
  refine g_aload0 dJx4a65c_grow_92f84_32 ?_
  refine g_getf kc0 dJx4a65c_grow_92f84_33 fl_Jx4a65c_9 (by decide) ha rfl ?_
  refine g_iload3 dJx4a65c_grow_92f84_36 ?_
  refine g_callS2 (ct_copy2 (nl := n + n / 2) hk hca hd hel (by omega) (by omega)) md_J7_copyOf_1904c dJx4a65c_grow_92f84_37 ml_Jx4a65c_66 st_J7_copyOf_1904c (RmOk.of (Nat.le_of_ble_eq_true rfl) (Nat.le_of_ble_eq_true rfl) (Nat.le_of_ble_eq_true rfl) (Nat.le_of_ble_eq_true rfl) (by show 0 + 0 + (n + n / 2) ≤ nl; omega)) (kr_R (fun q w1 hw1 => ?_)) kx_R
  obtain ⟨qn, qb, rfl⟩ := hw1
  have haq : a ≠ q := ne_of_new ha qn
  refine g_dup_x1 dJx4a65c_grow_92f84_40 rfl rfl ?_
  refine g_putf (fs' := [.int m, .ref q, .int (nI n)]) kc0 dJx4a65c_grow_92f84_41 fl_Jx4a65c_9 (by decide) rfl ((up_n haq).trans ha) hb rfl rfl (Nat.le_of_ble_eq_true rfl) rfl ?_
  refine g_aret (Or.inr ⟨_, rfl⟩) dJx4a65c_grow_92f84_44 ?_ (Nat.le_of_ble_eq_true rfl) (by (try dsimp only [rm_Jx4a65c_grow_92f84, rm_J8_newLength_cabcc, rm_J7_copyOf_1904c]); omega)
  refine ⟨q, rfl, qn, qb, ?_⟩
  rw [hg]

theorem ct_growI {G : Gx} {w : Wd} {a dd n nl ci N : Nat} {m : Int32} {el : Nat → Nat} {Cn : String} {T : u_T} {ty : Nat → FieldType} (hk : KC ci Cn T N ty) (hca : Cond.castable Cn "java/lang/Object" ∈ tw) (ha : w a = some (eO 0 [.int m, .ref dd, .int (nI n)])) (hb : (gH G).size ≤ a) (hd : w dd = some (eQ G n (lf n el))) (he : w (gE G) = some (eQ G 0 (fun _ => none))) (hg : n = 0 ∧ dd = gE G ∨ 10 ≤ n ∧ n ≤ 20000) (hnl : gcap n ≤ nl) (hel : ∀ i, i < n → ∃ vs, w (el i) = some (eO ci vs)) : Ct G yJx4a65c_grow_92f84 kw_Jx4a65c_grow_92f84 (rm_Jx4a65c_grow_92f84 nl) [.ref a, .int (nI (n + 1))] w (PR (fun q w' => w q = none ∧ (gH G).size ≤ q ∧ w' = up (up w q (eQ G (gcap n) (lf n el))) a (eO 0 [.int m, .ref q, .int (nI n)]))) := by
  rcases hg with ⟨h0, h1⟩ | ⟨h0, h1⟩
  · exact ct_growI0 hk hca ha hb hd he h0 h1 hnl hel
  · exact ct_growI1 hk hca ha hb hd he h0 h1 hnl hel

set_option maxRecDepth 100000 in
theorem ct_grow0 {G : Gx} {w : Wd} {a dd n nl ci N : Nat} {m : Int32} {el : Nat → Nat} {Cn : String} {T : u_T} {ty : Nat → FieldType} (hk : KC ci Cn T N ty) (hca : Cond.castable Cn "java/lang/Object" ∈ tw) (ha : w a = some (eO 0 [.int m, .ref dd, .int (nI n)])) (hb : (gH G).size ≤ a) (hd : w dd = some (eQ G n (lf n el))) (he : w (gE G) = some (eQ G 0 (fun _ => none))) (hg : n = 0 ∧ dd = gE G ∨ 10 ≤ n ∧ n ≤ 20000) (hnl : gcap n ≤ nl) (hel : ∀ i, i < n → ∃ vs, w (el i) = some (eO ci vs)) : Ct G yJx4a65c_grow_d5877 kw_Jx4a65c_grow_d5877 (rm_Jx4a65c_grow_d5877 nl) [.ref a] w (PR (fun q w' => w q = none ∧ (gH G).size ≤ q ∧ w' = up (up w q (eQ G (gcap n) (lf n el))) a (eO 0 [.int m, .ref q, .int (nI n)]))) := by
  refine ct_intro RJx4a65c "grow" (by decide +kernel) rfl rfl rfl (Nat.le_of_ble_eq_true rfl) [some (.ref a)] rfl (fun C => ?_)
  refine g_aload0 dJx4a65c_grow_d5877_0 ?_
  refine g_aload0 dJx4a65c_grow_d5877_1 ?_
  refine g_getf kc0 dJx4a65c_grow_d5877_2 fl_Jx4a65c_48 (by decide) ha rfl ?_
  refine g_iconst (v := 1) dJx4a65c_grow_d5877_5 (by decide) ?_
  refine g_iadd dJx4a65c_grow_d5877_6 ?_
  rw [show nI n + 1 = nI (n + 1) from nI_1 n]
  refine g_callV1 kc0 (ct_growI hk hca ha hb hd he hg hnl hel) md_Jx4a65c_grow_92f84 dJx4a65c_grow_d5877_7 ml_Jx4a65c_69 im_Jx4a65c_grow_92f84 se_Jx4a65c_grow_92f84 ha (RmOk.of (Nat.le_of_ble_eq_true rfl) (Nat.le_of_ble_eq_true rfl) (Nat.le_of_ble_eq_true rfl) (Nat.le_of_ble_eq_true rfl) (by show 0 + nl ≤ nl; omega)) (kr_R (fun q w1 hw1 => ?_)) kx_R
  refine g_aret (Or.inr ⟨_, rfl⟩) dJx4a65c_grow_d5877_10 ?_ (Nat.le_of_ble_eq_true rfl) (by (try dsimp only [rm_Jx4a65c_grow_d5877, rm_Jx4a65c_grow_92f84]); omega)
  exact ⟨q, rfl, hw1⟩

/-- behind an add: the list, its array (the old one or a new one), all else as it was -/
def LAdd (G : Gx) (w : Wd) (a dd cap n : Nat) (el : Nat → Nat) (v : Nat) (m : Int32) (w' : Wd) : Prop := ∃ dd' cap' : Nat, ((dd' = dd ∧ cap' = cap ∧ n < cap) ∨ (w dd' = none ∧ (gH G).size ≤ dd' ∧ n = cap ∧ cap' = gcap cap)) ∧
  w' a = some (eO 0 [.int m, .ref dd', .int (nI (n + 1))]) ∧ w' dd' = some (eQ G cap' (lf (n + 1) (va_up el n v))) ∧ ∀ b, b ≠ a → b ≠ dd' → w' b = w b
/-- what an add may make: nothing, or the new array -/
def gslot (n cap : Nat) : Nat := if n < cap then 0 else gcap cap
theorem gcap_lt {n : Nat} (h : n = 0 ∨ 10 ≤ n) : n < gcap n := by
  unfold gcap
  by_cases h0 : n = 0
  · rw [if_pos h0]; omega
  · rw [if_neg h0]; omega
theorem gcap_le {n : Nat} (h : n ≤ 20000) : gcap n ≤ 40000 := by
  unfold gcap
  by_cases h0 : n = 0
  · rw [if_pos h0]; omega
  · rw [if_neg h0]; omega

set_option maxRecDepth 100000 in
theorem ct_add3a {G : Gx} {w : Wd} {a dd n cap nl ci N v : Nat} {m : Int32} {el : Nat → Nat} {Cn : String} {T : u_T} {ty : Nat → FieldType} {vs : List Value} (hk : KC ci Cn T N ty) (hca : Cond.castable Cn "java/lang/Object" ∈ tw) (ha : w a = some (eO 0 [.int m, .ref dd, .int (nI n)])) (hb : (gH G).size ≤ a) (hd : w dd = some (eQ G cap (lf n el))) (he : w (gE G) = some (eQ G 0 (fun _ => none))) (hnc : n ≤ cap) (hg : cap = 0 ∧ dd = gE G ∨ 10 ≤ cap ∧ cap ≤ 20000 ∧ (gH G).size ≤ dd) (hnl : gslot n cap ≤ nl) (hel : ∀ i, i < n → ∃ vs, w (el i) = some (eO ci vs)) (hv : w v = some (eO ci vs)) (hlt : n < cap) : Ct G yJx4a65c_add_72be8 kw_Jx4a65c_add_72be8 (rm_Jx4a65c_add_72be8 nl) [.ref a, .ref v, .ref dd, .int (nI n)] w (PN (LAdd G w a dd cap n el v m)) := by
  have had : a ≠ dd := ne_of_cell ha hd (fun h => nomatch h)
  have hdb : (gH G).size ≤ dd := by rcases hg with ⟨h, -⟩ | ⟨-, -, h⟩ <;> first | omega | exact h
  have hcs : cap ≤ 20000 := by rcases hg with ⟨h, -⟩ | ⟨-, h, -⟩ <;> omega
  refine ct_intro RJx4a65c "add" (by decide +kernel) rfl rfl rfl (Nat.le_of_ble_eq_true rfl) [some (.ref a), some (.ref v), some (.ref dd), some (.int (nI n))] rfl (fun C => ?_)
  refine g_iload3 dJx4a65c_add_72be8_0 ?_
  refine g_aload2 dJx4a65c_add_72be8_1 ?_
  refine g_alenQ dJx4a65c_add_72be8_2 hd ?_
  refine g_icmp_ne_t (tgt := 11) dJx4a65c_add_72be8_3 (by decide) (fun h => absurd ((nI_eq (by omega) (by omega)).mp h) (by omega)) ?_
  refine g_aload2 dJx4a65c_add_72be8_11 ?_
  refine g_iload3 dJx4a65c_add_72be8_12 ?_
  refine g_aload1 dJx4a65c_add_72be8_13 ?_
  refine g_qast hk hca dJx4a65c_add_72be8_14 hd hv hdb (vp_in_nI hlt (by omega)) ?_
  rw [show (nI n).toNatClampNeg = n from nI_clamp (by omega)]
  refine g_aload0 dJx4a65c_add_72be8_15 ?_
  refine g_iload3 dJx4a65c_add_72be8_16 ?_
  refine g_iconst (v := 1) dJx4a65c_add_72be8_17 (by decide) ?_
  refine g_iadd dJx4a65c_add_72be8_18 ?_
  rw [show nI n + 1 = nI (n + 1) from nI_1 n]
  refine g_putf (fs' := [.int m, .ref dd, .int (nI (n + 1))]) kc0 dJx4a65c_add_72be8_19 fl_Jx4a65c_48 (by decide) rfl ((up_n had).trans ha) hb rfl rfl (Nat.le_of_ble_eq_true rfl) rfl ?_
  refine g_vret dJx4a65c_add_72be8_22 ?_ (Nat.zero_le _) (Nat.zero_le _)
  refine ⟨rfl, dd, cap, Or.inl ⟨rfl, rfl, hlt⟩, up_s _ _ _, ?_, fun b h1 h2 => by rw [up_n h1, up_n h2]⟩
  rw [up_n (Ne.symm had), up_s, lf_add]

set_option maxRecDepth 100000 in
theorem ct_add3b {G : Gx} {w : Wd} {a dd n cap nl ci N v : Nat} {m : Int32} {el : Nat → Nat} {Cn : String} {T : u_T} {ty : Nat → FieldType} {vs : List Value} (hk : KC ci Cn T N ty) (hca : Cond.castable Cn "java/lang/Object" ∈ tw) (ha : w a = some (eO 0 [.int m, .ref dd, .int (nI n)])) (hb : (gH G).size ≤ a) (hd : w dd = some (eQ G cap (lf n el))) (he : w (gE G) = some (eQ G 0 (fun _ => none))) (hnc : n ≤ cap) (hg : cap = 0 ∧ dd = gE G ∨ 10 ≤ cap ∧ cap ≤ 20000 ∧ (gH G).size ≤ dd) (hnl : gslot n cap ≤ nl) (hel : ∀ i, i < n → ∃ vs, w (el i) = some (eO ci vs)) (hv : w v = some (eO ci vs)) (hnc2 : n = cap) (hva : v ≠ a) : Ct G yJx4a65c_add_72be8 kw_Jx4a65c_add_72be8 (rm_Jx4a65c_add_72be8 nl) [.ref a, .ref v, .ref dd, .int (nI n)] w (PN (LAdd G w a dd cap n el v m)) := by
  have hg2 : n = 0 ∧ dd = gE G ∨ 10 ≤ n ∧ n ≤ 20000 := by rcases hg with ⟨z1, z2⟩ | ⟨z1, z2, -⟩ <;> first | (exact Or.inl ⟨hnc2.trans z1, z2⟩) | (exact Or.inr ⟨by omega, by omega⟩)
  have hnl2 : gcap n ≤ nl := by have h := hnl; unfold gslot at h; rw [if_neg (by omega), ← hnc2] at h; exact h
  have hcs : cap ≤ 20000 := by rcases hg with ⟨h, -⟩ | ⟨-, h, -⟩ <;> omega
  refine ct_intro RJx4a65c "add" (by decide +kernel) rfl rfl rfl (Nat.le_of_ble_eq_true rfl) [some (.ref a), some (.ref v), some (.ref dd), some (.int (nI n))] rfl (fun C => ?_)
  refine g_iload3 dJx4a65c_add_72be8_0 ?_
  refine g_aload2 dJx4a65c_add_72be8_1 ?_
  refine g_alenQ dJx4a65c_add_72be8_2 hd ?_
  refine g_icmp_ne_f (tgt := 11) dJx4a65c_add_72be8_3 (by decide) (by rw [hnc2]) ?_
  refine g_aload0 dJx4a65c_add_72be8_6 ?_
  refine g_callV0 kc0 (ct_grow0 (n := n) (nl := nl) hk hca ha hb (by rw [hnc2] at hd ⊢; exact hd) he hg2 hnl2 hel) md_Jx4a65c_grow_d5877 dJx4a65c_add_72be8_7 ml_Jx4a65c_129 im_Jx4a65c_grow_d5877 se_Jx4a65c_grow_d5877 ha (RmOk.of (Nat.le_of_ble_eq_true rfl) (Nat.le_of_ble_eq_true rfl) (Nat.le_of_ble_eq_true rfl) (Nat.le_of_ble_eq_true rfl) (by show 0 + nl ≤ nl; omega)) (kr_R (fun q w1 hw1 => ?_)) kx_R
  obtain ⟨qn, qb, rfl⟩ := hw1
  have haq : a ≠ q := ne_of_new ha qn
  have hgc : n < gcap n := gcap_lt (by rw [hnc2]; omega)
  have hgl : gcap n ≤ 40000 := gcap_le (by omega)
  refine g_astore2 dJx4a65c_add_72be8_10 ?_
  refine g_aload2 dJx4a65c_add_72be8_11 ?_
  refine g_iload3 dJx4a65c_add_72be8_12 ?_
  refine g_aload1 dJx4a65c_add_72be8_13 ?_
  refine g_qast hk hca dJx4a65c_add_72be8_14 ((up_n (Ne.symm haq)).trans (up_s _ _ _)) ((up_n hva).trans ((up_n (ne_of_new hv qn)).trans hv)) qb (vp_in_nI hgc (by omega)) ?_
  rw [show (nI n).toNatClampNeg = n from nI_clamp (by omega)]
  refine g_aload0 dJx4a65c_add_72be8_15 ?_
  refine g_iload3 dJx4a65c_add_72be8_16 ?_
  refine g_iconst (v := 1) dJx4a65c_add_72be8_17 (by decide) ?_
  refine g_iadd dJx4a65c_add_72be8_18 ?_
  rw [show nI n + 1 = nI (n + 1) from nI_1 n]
  refine g_putf (fs' := [.int m, .ref q, .int (nI (n + 1))]) kc0 dJx4a65c_add_72be8_19 fl_Jx4a65c_48 (by decide) rfl ((up_n haq).trans (up_s _ _ _)) hb rfl rfl (Nat.le_of_ble_eq_true rfl) rfl ?_
  refine g_vret dJx4a65c_add_72be8_22 ?_ (by (try dsimp only [rm_Jx4a65c_add_72be8, rm_Jx4a65c_grow_d5877]); omega) (by (try dsimp only [rm_Jx4a65c_add_72be8, rm_Jx4a65c_grow_d5877]); omega)
  refine ⟨rfl, q, gcap n, Or.inr ⟨qn, qb, hnc2, by rw [hnc2]⟩, up_s _ _ _, ?_, fun b h1 h2 => by rw [up_n h1, up_n h2, up_n h1, up_n h2]⟩
  rw [up_n (Ne.symm haq), up_s, lf_add]

theorem ct_add3 {G : Gx} {w : Wd} {a dd n cap nl ci N v : Nat} {m : Int32} {el : Nat → Nat} {Cn : String} {T : u_T} {ty : Nat → FieldType} {vs : List Value} (hk : KC ci Cn T N ty) (hca : Cond.castable Cn "java/lang/Object" ∈ tw) (ha : w a = some (eO 0 [.int m, .ref dd, .int (nI n)])) (hb : (gH G).size ≤ a) (hd : w dd = some (eQ G cap (lf n el))) (he : w (gE G) = some (eQ G 0 (fun _ => none))) (hnc : n ≤ cap) (hg : cap = 0 ∧ dd = gE G ∨ 10 ≤ cap ∧ cap ≤ 20000 ∧ (gH G).size ≤ dd) (hnl : gslot n cap ≤ nl) (hel : ∀ i, i < n → ∃ vs, w (el i) = some (eO ci vs)) (hv : w v = some (eO ci vs)) (hva : v ≠ a) : Ct G yJx4a65c_add_72be8 kw_Jx4a65c_add_72be8 (rm_Jx4a65c_add_72be8 nl) [.ref a, .ref v, .ref dd, .int (nI n)] w (PN (LAdd G w a dd cap n el v m)) := by
  rcases Nat.lt_or_ge n cap with h | h
  · exact ct_add3a hk hca ha hb hd he hnc hg hnl hel hv h
  · exact ct_add3b hk hca ha hb hd he hnc hg hnl hel hv (Nat.le_antisymm hnc h) hva

set_option maxRecDepth 100000 in
theorem ct_add {G : Gx} {w : Wd} {a dd n cap nl ci N v : Nat} {m : Int32} {el : Nat → Nat} {Cn : String} {T : u_T} {ty : Nat → FieldType} {vs : List Value} (hk : KC ci Cn T N ty) (hca : Cond.castable Cn "java/lang/Object" ∈ tw) (ha : w a = some (eO 0 [.int m, .ref dd, .int (nI n)])) (hb : (gH G).size ≤ a) (hd : w dd = some (eQ G cap (lf n el))) (he : w (gE G) = some (eQ G 0 (fun _ => none))) (hnc : n ≤ cap) (hg : cap = 0 ∧ dd = gE G ∨ 10 ≤ cap ∧ cap ≤ 20000 ∧ (gH G).size ≤ dd) (hnl : gslot n cap ≤ nl) (hel : ∀ i, i < n → ∃ vs, w (el i) = some (eO ci vs)) (hv : w v = some (eO ci vs)) (hva : v ≠ a) (hela : ∀ i, i < n → el i ≠ a) : Ct G yJx4a65c_add_9ea2d kw_Jx4a65c_add_9ea2d (rm_Jx4a65c_add_9ea2d nl) [.ref a, .ref v] w (PB (.int 1) (LAdd G w a dd cap n el v (m + 1))) := by
  refine ct_intro RJx4a65c "add" (by decide +kernel) rfl rfl rfl (Nat.le_of_ble_eq_true rfl) [some (.ref a), some (.ref v)] rfl (fun C => ?_)
  refine g_aload0 dJx4a65c_add_9ea2d_0 ?_
  refine g_dup dJx4a65c_add_9ea2d_1 rfl ?_
  refine g_getf kc0 dJx4a65c_add_9ea2d_2 fl_Jx4a65c_63 (by decide) ha rfl ?_
  refine g_iconst (v := 1) dJx4a65c_add_9ea2d_5 (by decide) ?_
  refine g_iadd dJx4a65c_add_9ea2d_6 ?_
  refine g_putf (fs' := [.int (m + 1), .ref dd, .int (nI n)]) kc0 dJx4a65c_add_9ea2d_7 fl_Jx4a65c_63 (by decide) rfl ha hb rfl rfl (Nat.le_of_ble_eq_true rfl) rfl ?_
  have had : a ≠ dd := ne_of_cell ha hd (fun h => nomatch h)
  have hae : gE G ≠ a := fun h => by rw [h, ha] at he; cases he
  refine g_aload0 dJx4a65c_add_9ea2d_10 ?_
  refine g_aload1 dJx4a65c_add_9ea2d_11 ?_
  refine g_aload0 dJx4a65c_add_9ea2d_12 ?_
  refine g_getf kc0 dJx4a65c_add_9ea2d_13 fl_Jx4a65c_9 (by decide) (up_s _ _ _) rfl ?_
  refine g_aload0 dJx4a65c_add_9ea2d_16 ?_
  refine g_getf kc0 dJx4a65c_add_9ea2d_17 fl_Jx4a65c_48 (by decide) (up_s _ _ _) rfl ?_
  refine g_callV3 kc0 (ct_add3 (m := m + 1) (nl := nl) hk hca (up_s _ _ _) hb ((up_n (Ne.symm had)).trans hd) ((up_n hae).trans he) hnc hg hnl (fun i hi => by obtain ⟨vs, hvs⟩ := hel i hi; exact ⟨vs, (up_n (hela i hi)).trans hvs⟩) ((up_n hva).trans hv) hva) md_Jx4a65c_add_72be8 dJx4a65c_add_9ea2d_20 ml_Jx4a65c_131 im_Jx4a65c_add_72be8 se_Jx4a65c_add_72be8 (up_s _ _ _) (RmOk.of (Nat.le_of_ble_eq_true rfl) (Nat.le_of_ble_eq_true rfl) (Nat.le_of_ble_eq_true rfl) (Nat.le_of_ble_eq_true rfl) (by show 0 + nl ≤ nl; omega)) (kr_N (fun w1 hw1 => ?_)) kx_N
  obtain ⟨dd9, cap9, q1, q2, q3, q4⟩ := hw1
  have hd9 : w dd9 = none → (up w a (eO 0 [.int (m + 1), .ref dd, .int (nI n)])) dd9 = none → True := fun _ _ => trivial
  refine g_iconst (v := 1) dJx4a65c_add_9ea2d_23 (by decide) ?_
  refine g_zret dJx4a65c_add_9ea2d_24 (by decide) ?_ (by (try dsimp only [rm_Jx4a65c_add_9ea2d, rm_Jx4a65c_add_72be8]); omega) (by (try dsimp only [rm_Jx4a65c_add_9ea2d, rm_Jx4a65c_add_72be8]); omega)
  refine ⟨rfl, dd9, cap9, ?_, q2, q3, fun b h1 h2 => (q4 b h1 h2).trans (up_n h1)⟩
  rcases q1 with q1 | ⟨q1, q5⟩
  · exact Or.inl q1
  · refine Or.inr ⟨?_, q5⟩
    have h9 : dd9 ≠ a := fun h => by rw [h, up_s] at q1; cases q1
    rwa [up_n h9] at q1

abbrev rm_J7_fill_53178 : Room := { frames := 0, cells := 0, slots := 0, locals := 0 }

theorem ct_fill_loop {G : Gx} {w : Wd} {a n : Nat} {f0 : Nat → Int32} {x : Int32} (hw : w a = some (eI G n f0)) (hb : (gH G).size ≤ a) (hn : n < 2 ^ 31) (C : Cx) : ∀ (N i : Nat), i ≤ n → n - i ≤ N → ∀ f : Nat → Int32, (∀ j, j < i → f j = x) → ∀ w1 : Wd, w1 a = some (eI G n f) → (∀ b, b ≠ a → w1 b = w b) →
    Go G rm_J7_fill_53178 cJ7_fill_53178 RJ7 (none, "fill", []) C (QP G rm_J7_fill_53178 (PN (fun w' => (∃ g : Nat → Int32, w' a = some (eI G n g) ∧ ∀ j, j < n → g j = x) ∧ ∀ b, b ≠ a → w' b = w b)) C) 5 [some (.ref a), some (.int x), some (.int (nI i)), some (.int (nI n))] [] w1 0 0 := by
  intro N
  induction N with
  | zero =>
    intro i hi hN f hf w1 hw1 ho
    have hin : i = n := by omega
    refine g_iload2 dJ7_fill_53178_5 ?_
    refine g_iload3 dJ7_fill_53178_6 ?_
    refine g_icmp_ge_t (tgt := 20) dJ7_fill_53178_7 (by decide) (by rw [hin]; exact Int32.le_refl _) ?_
    refine g_vret dJ7_fill_53178_20 ⟨rfl, ⟨f, hw1, fun j hj => hf j (by omega)⟩, ho⟩ (Nat.le_of_ble_eq_true rfl) (Nat.le_of_ble_eq_true rfl)
  | succ N ih =>
    intro i hi hN f hf w1 hw1 ho
    refine g_iload2 dJ7_fill_53178_5 ?_
    refine g_iload3 dJ7_fill_53178_6 ?_
    refine g_icmp_ge (tgt := 20) dJ7_fill_53178_7 (by decide) (fun h => ?_) (fun h => ?_)
    · have hin : i = n := Nat.le_antisymm hi ((nI_leI (by omega) (by omega)).mp h)
      refine g_vret dJ7_fill_53178_20 ⟨rfl, ⟨f, hw1, fun j hj => hf j (by omega)⟩, ho⟩ (Nat.le_of_ble_eq_true rfl) (Nat.le_of_ble_eq_true rfl)
    · have hlt : i < n := Nat.lt_of_not_le (fun z => h ((nI_leI (by omega) (by omega)).mpr z))
      refine g_aload0 dJ7_fill_53178_10 ?_
      refine g_iload2 dJ7_fill_53178_11 ?_
      refine g_iload1 dJ7_fill_53178_12 ?_
      refine g_iast dJ7_fill_53178_13 hw1 hb (vp_in_nI hlt hn) ?_
      rw [show (nI i).toNatClampNeg = i from nI_clamp (by omega)]
      refine g_iinc2 (v' := nI (i + 1)) dJ7_fill_53178_14 (nI_1 i) ?_
      refine g_goto (tgt := 5) dJ7_fill_53178_17 (by decide) ?_
      refine ih (i + 1) (by omega) (by omega) (upd f i x) (fun j hj => ?_) _ (up_s _ _ _) (fun b hb9 => (up_n hb9).trans (ho b hb9))
      by_cases hj2 : j = i
      · rw [hj2]; exact pk_us
      · rw [pk_un hj2]; exact hf j (by omega)
theorem ct_fill {G : Gx} {w : Wd} {a n : Nat} {f : Nat → Int32} {x : Int32} (hw : w a = some (eI G n f)) (hb : (gH G).size ≤ a) (hn : n < 2 ^ 31) : Ct G yJ7_fill_53178 kw_J7_fill_53178 rm_J7_fill_53178 [.ref a, .int x] w (PN (fun w' => (∃ g : Nat → Int32, w' a = some (eI G n g) ∧ ∀ j, j < n → g j = x) ∧ ∀ b, b ≠ a → w' b = w b)) := by
  refine ct_intro RJ7 "fill" (by decide +kernel) rfl rfl rfl (Nat.le_of_ble_eq_true rfl) [some (.ref a), some (.int x), none, none] rfl (fun C => ?_)
  refine g_iconst (v := 0) dJ7_fill_53178_0 (by decide) ?_
  refine g_istore2 dJ7_fill_53178_1 ?_
  refine g_aload0 dJ7_fill_53178_2 ?_
  refine g_alenI dJ7_fill_53178_3 hw ?_
  refine g_istore3 dJ7_fill_53178_4 ?_
  exact ct_fill_loop hw hb hn C n 0 (Nat.zero_le _) (by omega) f (fun j hj => absurd hj (Nat.not_lt_zero j)) w hw (fun b _ => rfl)

