/-! The reference made. -/
def posM : Nat → Nat
  | 0 => 0
  | 3 => 1
  | 4 => 2
  | 5 => 3
  | 8 => 4
  | 9 => 5
  | 11 => 6
  | 12 => 7
  | 14 => 8
  | 15 => 9
  | 16 => 10
  | 18 => 11
  | 19 => 12
  | 20 => 13
  | 21 => 14
  | 22 => 15
  | 23 => 16
  | 24 => 17
  | 25 => 18
  | 26 => 19
  | 27 => 20
  | 28 => 21
  | _ => 22
def invM : Nat → Nat
  | 0 => 0
  | 1 => 3
  | 2 => 4
  | 3 => 5
  | 4 => 8
  | 5 => 9
  | 6 => 11
  | 7 => 12
  | 8 => 14
  | 9 => 15
  | 10 => 16
  | 11 => 18
  | 12 => 19
  | 13 => 20
  | 14 => 21
  | 15 => 22
  | 16 => 23
  | 17 => 24
  | 18 => 25
  | 19 => 26
  | 20 => 27
  | 21 => 28
  | _ => 29
def amK (as : List Nat) (k : Nat) : Nat := as.getD (posM k) 0
def A0 (f25 f26 f27 : Nat → Int32) : Nat → Nat → Int32
  | 25 => f25
  | 26 => f26
  | 27 => f27
  | _ => fun _ => 0
theorem mIs_all {P : Nat → Prop} (h0 : P 0) (h3 : P 3) (h4 : P 4) (h5 : P 5) (h8 : P 8) (h9 : P 9) (h11 : P 11) (h12 : P 12) (h14 : P 14) (h15 : P 15) (h16 : P 16) (h18 : P 18) (h19 : P 19) (h20 : P 20) (h21 : P 21) (h22 : P 22) (h23 : P 23) (h24 : P 24) (h25 : P 25) (h26 : P 26) (h27 : P 27) (h28 : P 28) : ∀ k, mIs k = true → P k := by
  intro k hk
  have h9 : k ∈ [0, 3, 4, 5, 8, 9, 11, 12, 14, 15, 16, 18, 19, 20, 21, 22, 23, 24, 25, 26, 27, 28] := List.contains_iff_mem.mp hk
  simp only [List.mem_cons, List.not_mem_nil, or_false] at h9
  rcases h9 with rfl | rfl | rfl | rfl | rfl | rfl | rfl | rfl | rfl | rfl | rfl | rfl | rfl | rfl | rfl | rfl | rfl | rfl | rfl | rfl | rfl | rfl
  · exact h0
  · exact h3
  · exact h4
  · exact h5
  · exact h8
  · exact h9
  · exact h11
  · exact h12
  · exact h14
  · exact h15
  · exact h16
  · exact h18
  · exact h19
  · exact h20
  · exact h21
  · exact h22
  · exact h23
  · exact h24
  · exact h25
  · exact h26
  · exact h27
  · exact h28
theorem Mz.ofCS {G : Gx} {w w1 : Wd} {a q3 q4 q5 q8 q9 q11 q12 q14 q15 q16 q18 q19 q20 q21 q22 q23 q24 q25 q26 q27 q28 : Nat} {f25 f26 f27 : Nat → Int32} (hC : CS w (gH G).size a (eO 7 [.int 0, .int 0, .int 0, .ref q3, .ref q4, .ref q5, .int 0, .int 0, .ref q8, .ref q9, .int 0, .ref q11, .ref q12, .int 0, .ref q14, .ref q15, .ref q16, .int 0, .ref q18, .ref q19, .ref q20, .ref q21, .ref q22, .ref q23, .ref q24, .ref q25, .ref q26, .ref q27, .ref q28]) [(q28, eZ G 100 (fun _ => 0)), (q27, eI G 4 f27), (q26, eI G 4 f26), (q25, eI G 4 f25), (q24, eI G 4 (fun _ => 0)), (q23, eZ G 120 (fun _ => 0)), (q22, eI G 120 (fun _ => 0)), (q21, eI G 120 (fun _ => 0)), (q20, eI G 120 (fun _ => 0)), (q19, eI G 120 (fun _ => 0)), (q18, eI G 120 (fun _ => 0)), (q16, eI G 15 (fun _ => 0)), (q15, eI G 15 (fun _ => 0)), (q14, eI G 15 (fun _ => 0)), (q12, eI G 121 (fun _ => 0)), (q11, eI G 8 (fun _ => 0)), (q9, eI G 968 (fun _ => 0)), (q8, eI G 121 (fun _ => 0)), (q5, eI G 10 (fun _ => 0)), (q4, eI G 10 (fun _ => 0)), (q3, eI G 10 (fun _ => 0))] w1) (hab : (gH G).size ≤ a) : Mz G (amK [a, q3, q4, q5, q8, q9, q11, q12, q14, q15, q16, q18, q19, q20, q21, q22, q23, q24, q25, q26, q27, q28]) w1 (tI 0 (fun _ => 0)) (A0 f25 f26 f27) w1 ∧ (∀ k, mIs k = true → k ≠ 0 → w (amK [a, q3, q4, q5, q8, q9, q11, q12, q14, q15, q16, q18, q19, q20, q21, q22, q23, q24, q25, q26, q27, q28] k) = none) := by
  have hnd : ([a, q3, q4, q5, q8, q9, q11, q12, q14, q15, q16, q18, q19, q20, q21, q22, q23, q24, q25, q26, q27, q28]).Nodup := by
    have h1 : (a :: ([(q28, eZ G 100 (fun _ => 0)), (q27, eI G 4 f27), (q26, eI G 4 f26), (q25, eI G 4 f25), (q24, eI G 4 (fun _ => 0)), (q23, eZ G 120 (fun _ => 0)), (q22, eI G 120 (fun _ => 0)), (q21, eI G 120 (fun _ => 0)), (q20, eI G 120 (fun _ => 0)), (q19, eI G 120 (fun _ => 0)), (q18, eI G 120 (fun _ => 0)), (q16, eI G 15 (fun _ => 0)), (q15, eI G 15 (fun _ => 0)), (q14, eI G 15 (fun _ => 0)), (q12, eI G 121 (fun _ => 0)), (q11, eI G 8 (fun _ => 0)), (q9, eI G 968 (fun _ => 0)), (q8, eI G 121 (fun _ => 0)), (q5, eI G 10 (fun _ => 0)), (q4, eI G 10 (fun _ => 0)), (q3, eI G 10 (fun _ => 0))]).map Prod.fst).Nodup := List.nodup_cons.mpr ⟨hC.na, hC.2.2.1⟩
    refine List.Nodup.perm h1 ?_
    show List.Perm [a, q28, q27, q26, q25, q24, q23, q22, q21, q20, q19, q18, q16, q15, q14, q12, q11, q9, q8, q5, q4, q3] [a, q3, q4, q5, q8, q9, q11, q12, q14, q15, q16, q18, q19, q20, q21, q22, q23, q24, q25, q26, q27, q28]
    refine List.Perm.cons _ ?_
    exact (List.reverse_perm [q28, q27, q26, q25, q24, q23, q22, q21, q20, q19, q18, q16, q15, q14, q12, q11, q9, q8, q5, q4, q3]).symm
  have hpos : ∀ k, mIs k = true → posM k < 22 ∧ invM (posM k) = k := mIs_all ⟨by decide, rfl⟩ ⟨by decide, rfl⟩ ⟨by decide, rfl⟩ ⟨by decide, rfl⟩ ⟨by decide, rfl⟩ ⟨by decide, rfl⟩ ⟨by decide, rfl⟩ ⟨by decide, rfl⟩ ⟨by decide, rfl⟩ ⟨by decide, rfl⟩ ⟨by decide, rfl⟩ ⟨by decide, rfl⟩ ⟨by decide, rfl⟩ ⟨by decide, rfl⟩ ⟨by decide, rfl⟩ ⟨by decide, rfl⟩ ⟨by decide, rfl⟩ ⟨by decide, rfl⟩ ⟨by decide, rfl⟩ ⟨by decide, rfl⟩ ⟨by decide, rfl⟩ ⟨by decide, rfl⟩
  have hb : ∀ k, mIs k = true → (gH G).size ≤ amK [a, q3, q4, q5, q8, q9, q11, q12, q14, q15, q16, q18, q19, q20, q21, q22, q23, q24, q25, q26, q27, q28] k := mIs_all hab (hC.2.1 _ (List.mem_of_getElem? (i := 20) rfl)).2.1 (hC.2.1 _ (List.mem_of_getElem? (i := 19) rfl)).2.1 (hC.2.1 _ (List.mem_of_getElem? (i := 18) rfl)).2.1 (hC.2.1 _ (List.mem_of_getElem? (i := 17) rfl)).2.1 (hC.2.1 _ (List.mem_of_getElem? (i := 16) rfl)).2.1 (hC.2.1 _ (List.mem_of_getElem? (i := 15) rfl)).2.1 (hC.2.1 _ (List.mem_of_getElem? (i := 14) rfl)).2.1 (hC.2.1 _ (List.mem_of_getElem? (i := 13) rfl)).2.1 (hC.2.1 _ (List.mem_of_getElem? (i := 12) rfl)).2.1 (hC.2.1 _ (List.mem_of_getElem? (i := 11) rfl)).2.1 (hC.2.1 _ (List.mem_of_getElem? (i := 10) rfl)).2.1 (hC.2.1 _ (List.mem_of_getElem? (i := 9) rfl)).2.1 (hC.2.1 _ (List.mem_of_getElem? (i := 8) rfl)).2.1 (hC.2.1 _ (List.mem_of_getElem? (i := 7) rfl)).2.1 (hC.2.1 _ (List.mem_of_getElem? (i := 6) rfl)).2.1 (hC.2.1 _ (List.mem_of_getElem? (i := 5) rfl)).2.1 (hC.2.1 _ (List.mem_of_getElem? (i := 4) rfl)).2.1 (hC.2.1 _ (List.mem_of_getElem? (i := 3) rfl)).2.1 (hC.2.1 _ (List.mem_of_getElem? (i := 2) rfl)).2.1 (hC.2.1 _ (List.mem_of_getElem? (i := 1) rfl)).2.1 (hC.2.1 _ (List.mem_of_getElem? (i := 0) rfl)).2.1
  have hn : ∀ k, mIs k = true → k ≠ 0 → w (amK [a, q3, q4, q5, q8, q9, q11, q12, q14, q15, q16, q18, q19, q20, q21, q22, q23, q24, q25, q26, q27, q28] k) = none := mIs_all (fun z => absurd rfl z) (fun _ => (hC.2.1 _ (List.mem_of_getElem? (i := 20) rfl)).2.2) (fun _ => (hC.2.1 _ (List.mem_of_getElem? (i := 19) rfl)).2.2) (fun _ => (hC.2.1 _ (List.mem_of_getElem? (i := 18) rfl)).2.2) (fun _ => (hC.2.1 _ (List.mem_of_getElem? (i := 17) rfl)).2.2) (fun _ => (hC.2.1 _ (List.mem_of_getElem? (i := 16) rfl)).2.2) (fun _ => (hC.2.1 _ (List.mem_of_getElem? (i := 15) rfl)).2.2) (fun _ => (hC.2.1 _ (List.mem_of_getElem? (i := 14) rfl)).2.2) (fun _ => (hC.2.1 _ (List.mem_of_getElem? (i := 13) rfl)).2.2) (fun _ => (hC.2.1 _ (List.mem_of_getElem? (i := 12) rfl)).2.2) (fun _ => (hC.2.1 _ (List.mem_of_getElem? (i := 11) rfl)).2.2) (fun _ => (hC.2.1 _ (List.mem_of_getElem? (i := 10) rfl)).2.2) (fun _ => (hC.2.1 _ (List.mem_of_getElem? (i := 9) rfl)).2.2) (fun _ => (hC.2.1 _ (List.mem_of_getElem? (i := 8) rfl)).2.2) (fun _ => (hC.2.1 _ (List.mem_of_getElem? (i := 7) rfl)).2.2) (fun _ => (hC.2.1 _ (List.mem_of_getElem? (i := 6) rfl)).2.2) (fun _ => (hC.2.1 _ (List.mem_of_getElem? (i := 5) rfl)).2.2) (fun _ => (hC.2.1 _ (List.mem_of_getElem? (i := 4) rfl)).2.2) (fun _ => (hC.2.1 _ (List.mem_of_getElem? (i := 3) rfl)).2.2) (fun _ => (hC.2.1 _ (List.mem_of_getElem? (i := 2) rfl)).2.2) (fun _ => (hC.2.1 _ (List.mem_of_getElem? (i := 1) rfl)).2.2) (fun _ => (hC.2.1 _ (List.mem_of_getElem? (i := 0) rfl)).2.2)
  have hc : ∀ k, mIs k = true → k ≠ 0 → w1 (amK [a, q3, q4, q5, q8, q9, q11, q12, q14, q15, q16, q18, q19, q20, q21, q22, q23, q24, q25, q26, q27, q28] k) = some (marr G k (A0 f25 f26 f27 k)) := mIs_all (fun z => absurd rfl z) (fun _ => (hC.2.1 _ (List.mem_of_getElem? (i := 20) rfl)).1) (fun _ => (hC.2.1 _ (List.mem_of_getElem? (i := 19) rfl)).1) (fun _ => (hC.2.1 _ (List.mem_of_getElem? (i := 18) rfl)).1) (fun _ => (hC.2.1 _ (List.mem_of_getElem? (i := 17) rfl)).1) (fun _ => (hC.2.1 _ (List.mem_of_getElem? (i := 16) rfl)).1) (fun _ => (hC.2.1 _ (List.mem_of_getElem? (i := 15) rfl)).1) (fun _ => (hC.2.1 _ (List.mem_of_getElem? (i := 14) rfl)).1) (fun _ => (hC.2.1 _ (List.mem_of_getElem? (i := 13) rfl)).1) (fun _ => (hC.2.1 _ (List.mem_of_getElem? (i := 12) rfl)).1) (fun _ => (hC.2.1 _ (List.mem_of_getElem? (i := 11) rfl)).1) (fun _ => (hC.2.1 _ (List.mem_of_getElem? (i := 10) rfl)).1) (fun _ => (hC.2.1 _ (List.mem_of_getElem? (i := 9) rfl)).1) (fun _ => (hC.2.1 _ (List.mem_of_getElem? (i := 8) rfl)).1) (fun _ => (hC.2.1 _ (List.mem_of_getElem? (i := 7) rfl)).1) (fun _ => (hC.2.1 _ (List.mem_of_getElem? (i := 6) rfl)).1) (fun _ => (hC.2.1 _ (List.mem_of_getElem? (i := 5) rfl)).1) (fun _ => (hC.2.1 _ (List.mem_of_getElem? (i := 4) rfl)).1) (fun _ => (hC.2.1 _ (List.mem_of_getElem? (i := 3) rfl)).1) (fun _ => (hC.2.1 _ (List.mem_of_getElem? (i := 2) rfl)).1) (fun _ => (hC.2.1 _ (List.mem_of_getElem? (i := 1) rfl)).1) (fun _ => (hC.2.1 _ (List.mem_of_getElem? (i := 0) rfl)).1)
  refine ⟨⟨hC.1, hc, hb, fun i j hi hj e => ?_, fun _ _ => rfl⟩, hn⟩
  have e2 := nodup_getD hnd (hpos i hi).1 (hpos j hj).1 e
  rw [← (hpos i hi).2, e2, (hpos j hj).2]

abbrev rm_X6_init : Room := { frames := 1, cells := 25, slots := 2300, locals := 20 }

set_option maxRecDepth 100000 in
theorem mt_init {G : Gx} {w : Wd} {a : Nat} (hw : w a = some (eO 7 [.int 0, .int 0, .int 0, .null, .null, .null, .int 0, .int 0, .null, .null, .int 0, .null, .null, .int 0, .null, .null, .null, .int 0, .null, .null, .null, .null, .null, .null, .null, .null, .null, .null, .null])) (hb : (gH G).size ≤ a) : Ct G yX6_init kw_X6_init rm_X6_init [.ref a] w (PN (fun w' => ∃ am f25 f26 f27, Mz G am w' (tI 0 (fun _ => 0)) (A0 f25 f26 f27) w' ∧ am 0 = a ∧ (∀ i, i < 4 → f25 i = 99 ∧ f26 i = -1 ∧ f27 i = 100) ∧ (∀ k, mIs k = true → k ≠ 0 → w (am k) = none) ∧ ∀ b, b ≠ a → w b ≠ none → w' b = w b)) := by
  have hC := CS.start (B := (gH G).size) hw
  refine ct_intro RX6 "<init>" (by decide +kernel) rfl rfl rfl (Nat.le_of_ble_eq_true rfl) [some (.ref a)] rfl (fun C => ?_)
  refine g_aload0 dX6_init_0 ?_
  refine g_objInit dX6_init_1 ml_X6_1 im_oi cd_oi (Nat.le_of_ble_eq_true rfl) (Nat.le_of_ble_eq_true rfl) ?_
  refine g_aload0 dX6_init_4 ?_
  refine g_bipush (v := 10) dX6_init_5 (by decide) ?_
  refine g_newI (N := 10) dX6_init_7 ac_int (by decide) (by decide) (Nat.le_of_ble_eq_true rfl) (Nat.le_of_ble_eq_true rfl) (Nat.le_of_ble_eq_true rfl) (fun q3 q3n q3b => ?_)
  refine CS.op (P := fun w9 => Go _ _ _ _ _ _ _ _ _ _ w9 _ _) (hC.new q3n q3b) (fun w9 hC => ?_)
  refine g_putF (fs' := [.int 0, .int 0, .int 0, .ref q3, .null, .null, .int 0, .int 0, .null, .null, .int 0, .null, .null, .int 0, .null, .null, .null, .int 0, .null, .null, .null, .null, .null, .null, .null, .null, .null, .null, .null]) kc7 dX6_init_9 fw_X6_7 (by decide) rfl rfl hC.1 hb rfl rfl (Nat.le_of_ble_eq_true rfl) rfl ?_
  refine CS.op (P := fun w9 => Go _ _ _ _ _ _ _ _ _ _ w9 _ _) (hC.puta _) (fun w9 hC => ?_)
  refine g_aload0 dX6_init_12 ?_
  refine g_bipush (v := 10) dX6_init_13 (by decide) ?_
  refine g_newI (N := 10) dX6_init_15 ac_int (by decide) (by decide) (Nat.le_of_ble_eq_true rfl) (Nat.le_of_ble_eq_true rfl) (Nat.le_of_ble_eq_true rfl) (fun q4 q4n q4b => ?_)
  refine CS.op (P := fun w9 => Go _ _ _ _ _ _ _ _ _ _ w9 _ _) (hC.new q4n q4b) (fun w9 hC => ?_)
  refine g_putF (fs' := [.int 0, .int 0, .int 0, .ref q3, .ref q4, .null, .int 0, .int 0, .null, .null, .int 0, .null, .null, .int 0, .null, .null, .null, .int 0, .null, .null, .null, .null, .null, .null, .null, .null, .null, .null, .null]) kc7 dX6_init_17 fw_X6_13 (by decide) rfl rfl hC.1 hb rfl rfl (Nat.le_of_ble_eq_true rfl) rfl ?_
  refine CS.op (P := fun w9 => Go _ _ _ _ _ _ _ _ _ _ w9 _ _) (hC.puta _) (fun w9 hC => ?_)
  refine g_aload0 dX6_init_20 ?_
  refine g_bipush (v := 10) dX6_init_21 (by decide) ?_
  refine g_newI (N := 10) dX6_init_23 ac_int (by decide) (by decide) (Nat.le_of_ble_eq_true rfl) (Nat.le_of_ble_eq_true rfl) (Nat.le_of_ble_eq_true rfl) (fun q5 q5n q5b => ?_)
  refine CS.op (P := fun w9 => Go _ _ _ _ _ _ _ _ _ _ w9 _ _) (hC.new q5n q5b) (fun w9 hC => ?_)
  refine g_putF (fs' := [.int 0, .int 0, .int 0, .ref q3, .ref q4, .ref q5, .int 0, .int 0, .null, .null, .int 0, .null, .null, .int 0, .null, .null, .null, .int 0, .null, .null, .null, .null, .null, .null, .null, .null, .null, .null, .null]) kc7 dX6_init_25 fw_X6_16 (by decide) rfl rfl hC.1 hb rfl rfl (Nat.le_of_ble_eq_true rfl) rfl ?_
  refine CS.op (P := fun w9 => Go _ _ _ _ _ _ _ _ _ _ w9 _ _) (hC.puta _) (fun w9 hC => ?_)
  refine g_aload0 dX6_init_28 ?_
  refine g_bipush (v := 121) dX6_init_29 (by decide) ?_
  refine g_newI (N := 121) dX6_init_31 ac_int (by decide) (by decide) (Nat.le_of_ble_eq_true rfl) (Nat.le_of_ble_eq_true rfl) (Nat.le_of_ble_eq_true rfl) (fun q8 q8n q8b => ?_)
  refine CS.op (P := fun w9 => Go _ _ _ _ _ _ _ _ _ _ w9 _ _) (hC.new q8n q8b) (fun w9 hC => ?_)
  refine g_putF (fs' := [.int 0, .int 0, .int 0, .ref q3, .ref q4, .ref q5, .int 0, .int 0, .ref q8, .null, .int 0, .null, .null, .int 0, .null, .null, .null, .int 0, .null, .null, .null, .null, .null, .null, .null, .null, .null, .null, .null]) kc7 dX6_init_33 fw_X6_19 (by decide) rfl rfl hC.1 hb rfl rfl (Nat.le_of_ble_eq_true rfl) rfl ?_
  refine CS.op (P := fun w9 => Go _ _ _ _ _ _ _ _ _ _ w9 _ _) (hC.puta _) (fun w9 hC => ?_)
  refine g_aload0 dX6_init_36 ?_
  refine g_sipush (v := 968) dX6_init_37 (by decide) ?_
  refine g_newI (N := 968) dX6_init_40 ac_int (by decide) (by decide) (Nat.le_of_ble_eq_true rfl) (Nat.le_of_ble_eq_true rfl) (Nat.le_of_ble_eq_true rfl) (fun q9 q9n q9b => ?_)
  refine CS.op (P := fun w9 => Go _ _ _ _ _ _ _ _ _ _ w9 _ _) (hC.new q9n q9b) (fun w9 hC => ?_)
  refine g_putF (fs' := [.int 0, .int 0, .int 0, .ref q3, .ref q4, .ref q5, .int 0, .int 0, .ref q8, .ref q9, .int 0, .null, .null, .int 0, .null, .null, .null, .int 0, .null, .null, .null, .null, .null, .null, .null, .null, .null, .null, .null]) kc7 dX6_init_42 fw_X6_22 (by decide) rfl rfl hC.1 hb rfl rfl (Nat.le_of_ble_eq_true rfl) rfl ?_
  refine CS.op (P := fun w9 => Go _ _ _ _ _ _ _ _ _ _ w9 _ _) (hC.puta _) (fun w9 hC => ?_)
  refine g_aload0 dX6_init_45 ?_
  refine g_bipush (v := 8) dX6_init_46 (by decide) ?_
  refine g_newI (N := 8) dX6_init_48 ac_int (by decide) (by decide) (Nat.le_of_ble_eq_true rfl) (Nat.le_of_ble_eq_true rfl) (Nat.le_of_ble_eq_true rfl) (fun q11 q11n q11b => ?_)
  refine CS.op (P := fun w9 => Go _ _ _ _ _ _ _ _ _ _ w9 _ _) (hC.new q11n q11b) (fun w9 hC => ?_)
  refine g_putF (fs' := [.int 0, .int 0, .int 0, .ref q3, .ref q4, .ref q5, .int 0, .int 0, .ref q8, .ref q9, .int 0, .ref q11, .null, .int 0, .null, .null, .null, .int 0, .null, .null, .null, .null, .null, .null, .null, .null, .null, .null, .null]) kc7 dX6_init_50 fw_X6_25 (by decide) rfl rfl hC.1 hb rfl rfl (Nat.le_of_ble_eq_true rfl) rfl ?_
  refine CS.op (P := fun w9 => Go _ _ _ _ _ _ _ _ _ _ w9 _ _) (hC.puta _) (fun w9 hC => ?_)
  refine g_aload0 dX6_init_53 ?_
  refine g_bipush (v := 121) dX6_init_54 (by decide) ?_
  refine g_newI (N := 121) dX6_init_56 ac_int (by decide) (by decide) (Nat.le_of_ble_eq_true rfl) (Nat.le_of_ble_eq_true rfl) (Nat.le_of_ble_eq_true rfl) (fun q12 q12n q12b => ?_)
  refine CS.op (P := fun w9 => Go _ _ _ _ _ _ _ _ _ _ w9 _ _) (hC.new q12n q12b) (fun w9 hC => ?_)
  refine g_putF (fs' := [.int 0, .int 0, .int 0, .ref q3, .ref q4, .ref q5, .int 0, .int 0, .ref q8, .ref q9, .int 0, .ref q11, .ref q12, .int 0, .null, .null, .null, .int 0, .null, .null, .null, .null, .null, .null, .null, .null, .null, .null, .null]) kc7 dX6_init_58 fw_X6_28 (by decide) rfl rfl hC.1 hb rfl rfl (Nat.le_of_ble_eq_true rfl) rfl ?_
  refine CS.op (P := fun w9 => Go _ _ _ _ _ _ _ _ _ _ w9 _ _) (hC.puta _) (fun w9 hC => ?_)
  refine g_aload0 dX6_init_61 ?_
  refine g_bipush (v := 15) dX6_init_62 (by decide) ?_
  refine g_newI (N := 15) dX6_init_64 ac_int (by decide) (by decide) (Nat.le_of_ble_eq_true rfl) (Nat.le_of_ble_eq_true rfl) (Nat.le_of_ble_eq_true rfl) (fun q14 q14n q14b => ?_)
  refine CS.op (P := fun w9 => Go _ _ _ _ _ _ _ _ _ _ w9 _ _) (hC.new q14n q14b) (fun w9 hC => ?_)
  refine g_putF (fs' := [.int 0, .int 0, .int 0, .ref q3, .ref q4, .ref q5, .int 0, .int 0, .ref q8, .ref q9, .int 0, .ref q11, .ref q12, .int 0, .ref q14, .null, .null, .int 0, .null, .null, .null, .null, .null, .null, .null, .null, .null, .null, .null]) kc7 dX6_init_66 fw_X6_31 (by decide) rfl rfl hC.1 hb rfl rfl (Nat.le_of_ble_eq_true rfl) rfl ?_
  refine CS.op (P := fun w9 => Go _ _ _ _ _ _ _ _ _ _ w9 _ _) (hC.puta _) (fun w9 hC => ?_)
  refine g_aload0 dX6_init_69 ?_
  refine g_bipush (v := 15) dX6_init_70 (by decide) ?_
  refine g_newI (N := 15) dX6_init_72 ac_int (by decide) (by decide) (Nat.le_of_ble_eq_true rfl) (Nat.le_of_ble_eq_true rfl) (Nat.le_of_ble_eq_true rfl) (fun q15 q15n q15b => ?_)
  refine CS.op (P := fun w9 => Go _ _ _ _ _ _ _ _ _ _ w9 _ _) (hC.new q15n q15b) (fun w9 hC => ?_)
  refine g_putF (fs' := [.int 0, .int 0, .int 0, .ref q3, .ref q4, .ref q5, .int 0, .int 0, .ref q8, .ref q9, .int 0, .ref q11, .ref q12, .int 0, .ref q14, .ref q15, .null, .int 0, .null, .null, .null, .null, .null, .null, .null, .null, .null, .null, .null]) kc7 dX6_init_74 fw_X6_34 (by decide) rfl rfl hC.1 hb rfl rfl (Nat.le_of_ble_eq_true rfl) rfl ?_
  refine CS.op (P := fun w9 => Go _ _ _ _ _ _ _ _ _ _ w9 _ _) (hC.puta _) (fun w9 hC => ?_)
  refine g_aload0 dX6_init_77 ?_
  refine g_bipush (v := 15) dX6_init_78 (by decide) ?_
  refine g_newI (N := 15) dX6_init_80 ac_int (by decide) (by decide) (Nat.le_of_ble_eq_true rfl) (Nat.le_of_ble_eq_true rfl) (Nat.le_of_ble_eq_true rfl) (fun q16 q16n q16b => ?_)
  refine CS.op (P := fun w9 => Go _ _ _ _ _ _ _ _ _ _ w9 _ _) (hC.new q16n q16b) (fun w9 hC => ?_)
  refine g_putF (fs' := [.int 0, .int 0, .int 0, .ref q3, .ref q4, .ref q5, .int 0, .int 0, .ref q8, .ref q9, .int 0, .ref q11, .ref q12, .int 0, .ref q14, .ref q15, .ref q16, .int 0, .null, .null, .null, .null, .null, .null, .null, .null, .null, .null, .null]) kc7 dX6_init_82 fw_X6_37 (by decide) rfl rfl hC.1 hb rfl rfl (Nat.le_of_ble_eq_true rfl) rfl ?_
  refine CS.op (P := fun w9 => Go _ _ _ _ _ _ _ _ _ _ w9 _ _) (hC.puta _) (fun w9 hC => ?_)
  refine g_aload0 dX6_init_85 ?_
  refine g_bipush (v := 120) dX6_init_86 (by decide) ?_
  refine g_newI (N := 120) dX6_init_88 ac_int (by decide) (by decide) (Nat.le_of_ble_eq_true rfl) (Nat.le_of_ble_eq_true rfl) (Nat.le_of_ble_eq_true rfl) (fun q18 q18n q18b => ?_)
  refine CS.op (P := fun w9 => Go _ _ _ _ _ _ _ _ _ _ w9 _ _) (hC.new q18n q18b) (fun w9 hC => ?_)
  refine g_putF (fs' := [.int 0, .int 0, .int 0, .ref q3, .ref q4, .ref q5, .int 0, .int 0, .ref q8, .ref q9, .int 0, .ref q11, .ref q12, .int 0, .ref q14, .ref q15, .ref q16, .int 0, .ref q18, .null, .null, .null, .null, .null, .null, .null, .null, .null, .null]) kc7 dX6_init_90 fw_X6_40 (by decide) rfl rfl hC.1 hb rfl rfl (Nat.le_of_ble_eq_true rfl) rfl ?_
  refine CS.op (P := fun w9 => Go _ _ _ _ _ _ _ _ _ _ w9 _ _) (hC.puta _) (fun w9 hC => ?_)
  refine g_aload0 dX6_init_93 ?_
  refine g_bipush (v := 120) dX6_init_94 (by decide) ?_
  refine g_newI (N := 120) dX6_init_96 ac_int (by decide) (by decide) (Nat.le_of_ble_eq_true rfl) (Nat.le_of_ble_eq_true rfl) (Nat.le_of_ble_eq_true rfl) (fun q19 q19n q19b => ?_)
  refine CS.op (P := fun w9 => Go _ _ _ _ _ _ _ _ _ _ w9 _ _) (hC.new q19n q19b) (fun w9 hC => ?_)
  refine g_putF (fs' := [.int 0, .int 0, .int 0, .ref q3, .ref q4, .ref q5, .int 0, .int 0, .ref q8, .ref q9, .int 0, .ref q11, .ref q12, .int 0, .ref q14, .ref q15, .ref q16, .int 0, .ref q18, .ref q19, .null, .null, .null, .null, .null, .null, .null, .null, .null]) kc7 dX6_init_98 fw_X6_43 (by decide) rfl rfl hC.1 hb rfl rfl (Nat.le_of_ble_eq_true rfl) rfl ?_
  refine CS.op (P := fun w9 => Go _ _ _ _ _ _ _ _ _ _ w9 _ _) (hC.puta _) (fun w9 hC => ?_)
  refine g_aload0 dX6_init_101 ?_
  refine g_bipush (v := 120) dX6_init_102 (by decide) ?_
  refine g_newI (N := 120) dX6_init_104 ac_int (by decide) (by decide) (Nat.le_of_ble_eq_true rfl) (Nat.le_of_ble_eq_true rfl) (Nat.le_of_ble_eq_true rfl) (fun q20 q20n q20b => ?_)
  refine CS.op (P := fun w9 => Go _ _ _ _ _ _ _ _ _ _ w9 _ _) (hC.new q20n q20b) (fun w9 hC => ?_)
  refine g_putF (fs' := [.int 0, .int 0, .int 0, .ref q3, .ref q4, .ref q5, .int 0, .int 0, .ref q8, .ref q9, .int 0, .ref q11, .ref q12, .int 0, .ref q14, .ref q15, .ref q16, .int 0, .ref q18, .ref q19, .ref q20, .null, .null, .null, .null, .null, .null, .null, .null]) kc7 dX6_init_106 fw_X6_46 (by decide) rfl rfl hC.1 hb rfl rfl (Nat.le_of_ble_eq_true rfl) rfl ?_
  refine CS.op (P := fun w9 => Go _ _ _ _ _ _ _ _ _ _ w9 _ _) (hC.puta _) (fun w9 hC => ?_)
  refine g_aload0 dX6_init_109 ?_
  refine g_bipush (v := 120) dX6_init_110 (by decide) ?_
  refine g_newI (N := 120) dX6_init_112 ac_int (by decide) (by decide) (Nat.le_of_ble_eq_true rfl) (Nat.le_of_ble_eq_true rfl) (Nat.le_of_ble_eq_true rfl) (fun q21 q21n q21b => ?_)
  refine CS.op (P := fun w9 => Go _ _ _ _ _ _ _ _ _ _ w9 _ _) (hC.new q21n q21b) (fun w9 hC => ?_)
  refine g_putF (fs' := [.int 0, .int 0, .int 0, .ref q3, .ref q4, .ref q5, .int 0, .int 0, .ref q8, .ref q9, .int 0, .ref q11, .ref q12, .int 0, .ref q14, .ref q15, .ref q16, .int 0, .ref q18, .ref q19, .ref q20, .ref q21, .null, .null, .null, .null, .null, .null, .null]) kc7 dX6_init_114 fw_X6_49 (by decide) rfl rfl hC.1 hb rfl rfl (Nat.le_of_ble_eq_true rfl) rfl ?_
  refine CS.op (P := fun w9 => Go _ _ _ _ _ _ _ _ _ _ w9 _ _) (hC.puta _) (fun w9 hC => ?_)
  refine g_aload0 dX6_init_117 ?_
  refine g_bipush (v := 120) dX6_init_118 (by decide) ?_
  refine g_newI (N := 120) dX6_init_120 ac_int (by decide) (by decide) (Nat.le_of_ble_eq_true rfl) (Nat.le_of_ble_eq_true rfl) (Nat.le_of_ble_eq_true rfl) (fun q22 q22n q22b => ?_)
  refine CS.op (P := fun w9 => Go _ _ _ _ _ _ _ _ _ _ w9 _ _) (hC.new q22n q22b) (fun w9 hC => ?_)
  refine g_putF (fs' := [.int 0, .int 0, .int 0, .ref q3, .ref q4, .ref q5, .int 0, .int 0, .ref q8, .ref q9, .int 0, .ref q11, .ref q12, .int 0, .ref q14, .ref q15, .ref q16, .int 0, .ref q18, .ref q19, .ref q20, .ref q21, .ref q22, .null, .null, .null, .null, .null, .null]) kc7 dX6_init_122 fw_X6_52 (by decide) rfl rfl hC.1 hb rfl rfl (Nat.le_of_ble_eq_true rfl) rfl ?_
  refine CS.op (P := fun w9 => Go _ _ _ _ _ _ _ _ _ _ w9 _ _) (hC.puta _) (fun w9 hC => ?_)
  refine g_aload0 dX6_init_125 ?_
  refine g_bipush (v := 120) dX6_init_126 (by decide) ?_
  refine g_newZ (N := 120) dX6_init_128 ac_boolean (by decide) (by decide) (Nat.le_of_ble_eq_true rfl) (Nat.le_of_ble_eq_true rfl) (Nat.le_of_ble_eq_true rfl) (fun q23 q23n q23b => ?_)
  refine CS.op (P := fun w9 => Go _ _ _ _ _ _ _ _ _ _ w9 _ _) (hC.new q23n q23b) (fun w9 hC => ?_)
  refine g_putF (fs' := [.int 0, .int 0, .int 0, .ref q3, .ref q4, .ref q5, .int 0, .int 0, .ref q8, .ref q9, .int 0, .ref q11, .ref q12, .int 0, .ref q14, .ref q15, .ref q16, .int 0, .ref q18, .ref q19, .ref q20, .ref q21, .ref q22, .ref q23, .null, .null, .null, .null, .null]) kc7 dX6_init_130 fw_X6_55 (by decide) rfl rfl hC.1 hb rfl rfl (Nat.le_of_ble_eq_true rfl) rfl ?_
  refine CS.op (P := fun w9 => Go _ _ _ _ _ _ _ _ _ _ w9 _ _) (hC.puta _) (fun w9 hC => ?_)
  refine g_aload0 dX6_init_133 ?_
  refine g_iconst (v := 4) dX6_init_134 (by decide) ?_
  refine g_newI (N := 4) dX6_init_135 ac_int (by decide) (by decide) (Nat.le_of_ble_eq_true rfl) (Nat.le_of_ble_eq_true rfl) (Nat.le_of_ble_eq_true rfl) (fun q24 q24n q24b => ?_)
  refine CS.op (P := fun w9 => Go _ _ _ _ _ _ _ _ _ _ w9 _ _) (hC.new q24n q24b) (fun w9 hC => ?_)
  refine g_putF (fs' := [.int 0, .int 0, .int 0, .ref q3, .ref q4, .ref q5, .int 0, .int 0, .ref q8, .ref q9, .int 0, .ref q11, .ref q12, .int 0, .ref q14, .ref q15, .ref q16, .int 0, .ref q18, .ref q19, .ref q20, .ref q21, .ref q22, .ref q23, .ref q24, .null, .null, .null, .null]) kc7 dX6_init_137 fw_X6_59 (by decide) rfl rfl hC.1 hb rfl rfl (Nat.le_of_ble_eq_true rfl) rfl ?_
  refine CS.op (P := fun w9 => Go _ _ _ _ _ _ _ _ _ _ w9 _ _) (hC.puta _) (fun w9 hC => ?_)
  refine g_aload0 dX6_init_140 ?_
  refine g_iconst (v := 4) dX6_init_141 (by decide) ?_
  refine g_newI (N := 4) dX6_init_142 ac_int (by decide) (by decide) (Nat.le_of_ble_eq_true rfl) (Nat.le_of_ble_eq_true rfl) (Nat.le_of_ble_eq_true rfl) (fun q25 q25n q25b => ?_)
  refine CS.op (P := fun w9 => Go _ _ _ _ _ _ _ _ _ _ w9 _ _) (hC.new q25n q25b) (fun w9 hC => ?_)
  refine g_dup dX6_init_144 rfl ?_
  refine g_iconst (v := 0) dX6_init_145 (by decide) ?_
  refine g_bipush (v := 99) dX6_init_146 (by decide) ?_
  refine g_iast dX6_init_148 (hC.2.1 _ List.mem_cons_self).1 (hC.2.1 _ List.mem_cons_self).2.1 (vp_in_nI (show 0 < 4 by decide) (by decide)) ?_
  refine CS.op (P := fun w9 => Go _ _ _ _ _ _ _ _ _ _ w9 _ _) (hC.puth _) (fun w9 hC => ?_)
  refine g_dup dX6_init_149 rfl ?_
  refine g_iconst (v := 1) dX6_init_150 (by decide) ?_
  refine g_bipush (v := 99) dX6_init_151 (by decide) ?_
  refine g_iast dX6_init_153 (hC.2.1 _ List.mem_cons_self).1 (hC.2.1 _ List.mem_cons_self).2.1 (vp_in_nI (show 1 < 4 by decide) (by decide)) ?_
  refine CS.op (P := fun w9 => Go _ _ _ _ _ _ _ _ _ _ w9 _ _) (hC.puth _) (fun w9 hC => ?_)
  refine g_dup dX6_init_154 rfl ?_
  refine g_iconst (v := 2) dX6_init_155 (by decide) ?_
  refine g_bipush (v := 99) dX6_init_156 (by decide) ?_
  refine g_iast dX6_init_158 (hC.2.1 _ List.mem_cons_self).1 (hC.2.1 _ List.mem_cons_self).2.1 (vp_in_nI (show 2 < 4 by decide) (by decide)) ?_
  refine CS.op (P := fun w9 => Go _ _ _ _ _ _ _ _ _ _ w9 _ _) (hC.puth _) (fun w9 hC => ?_)
  refine g_dup dX6_init_159 rfl ?_
  refine g_iconst (v := 3) dX6_init_160 (by decide) ?_
  refine g_bipush (v := 99) dX6_init_161 (by decide) ?_
  refine g_iast dX6_init_163 (hC.2.1 _ List.mem_cons_self).1 (hC.2.1 _ List.mem_cons_self).2.1 (vp_in_nI (show 3 < 4 by decide) (by decide)) ?_
  refine CS.op (P := fun w9 => Go _ _ _ _ _ _ _ _ _ _ w9 _ _) (hC.puth _) (fun w9 hC => ?_)
  refine g_putF (fs' := [.int 0, .int 0, .int 0, .ref q3, .ref q4, .ref q5, .int 0, .int 0, .ref q8, .ref q9, .int 0, .ref q11, .ref q12, .int 0, .ref q14, .ref q15, .ref q16, .int 0, .ref q18, .ref q19, .ref q20, .ref q21, .ref q22, .ref q23, .ref q24, .ref q25, .null, .null, .null]) kc7 dX6_init_164 fw_X6_62 (by decide) rfl rfl hC.1 hb rfl rfl (Nat.le_of_ble_eq_true rfl) rfl ?_
  refine CS.op (P := fun w9 => Go _ _ _ _ _ _ _ _ _ _ w9 _ _) (hC.puta _) (fun w9 hC => ?_)
  refine g_aload0 dX6_init_167 ?_
  refine g_iconst (v := 4) dX6_init_168 (by decide) ?_
  refine g_newI (N := 4) dX6_init_169 ac_int (by decide) (by decide) (Nat.le_of_ble_eq_true rfl) (Nat.le_of_ble_eq_true rfl) (Nat.le_of_ble_eq_true rfl) (fun q26 q26n q26b => ?_)
  refine CS.op (P := fun w9 => Go _ _ _ _ _ _ _ _ _ _ w9 _ _) (hC.new q26n q26b) (fun w9 hC => ?_)
  refine g_dup dX6_init_171 rfl ?_
  refine g_iconst (v := 0) dX6_init_172 (by decide) ?_
  refine g_iconst (v := (-1)) dX6_init_173 (by decide) ?_
  refine g_iast dX6_init_174 (hC.2.1 _ List.mem_cons_self).1 (hC.2.1 _ List.mem_cons_self).2.1 (vp_in_nI (show 0 < 4 by decide) (by decide)) ?_
  refine CS.op (P := fun w9 => Go _ _ _ _ _ _ _ _ _ _ w9 _ _) (hC.puth _) (fun w9 hC => ?_)
  refine g_dup dX6_init_175 rfl ?_
  refine g_iconst (v := 1) dX6_init_176 (by decide) ?_
  refine g_iconst (v := (-1)) dX6_init_177 (by decide) ?_
  refine g_iast dX6_init_178 (hC.2.1 _ List.mem_cons_self).1 (hC.2.1 _ List.mem_cons_self).2.1 (vp_in_nI (show 1 < 4 by decide) (by decide)) ?_
  refine CS.op (P := fun w9 => Go _ _ _ _ _ _ _ _ _ _ w9 _ _) (hC.puth _) (fun w9 hC => ?_)
  refine g_dup dX6_init_179 rfl ?_
  refine g_iconst (v := 2) dX6_init_180 (by decide) ?_
  refine g_iconst (v := (-1)) dX6_init_181 (by decide) ?_
  refine g_iast dX6_init_182 (hC.2.1 _ List.mem_cons_self).1 (hC.2.1 _ List.mem_cons_self).2.1 (vp_in_nI (show 2 < 4 by decide) (by decide)) ?_
  refine CS.op (P := fun w9 => Go _ _ _ _ _ _ _ _ _ _ w9 _ _) (hC.puth _) (fun w9 hC => ?_)
  refine g_dup dX6_init_183 rfl ?_
  refine g_iconst (v := 3) dX6_init_184 (by decide) ?_
  refine g_iconst (v := (-1)) dX6_init_185 (by decide) ?_
  refine g_iast dX6_init_186 (hC.2.1 _ List.mem_cons_self).1 (hC.2.1 _ List.mem_cons_self).2.1 (vp_in_nI (show 3 < 4 by decide) (by decide)) ?_
  refine CS.op (P := fun w9 => Go _ _ _ _ _ _ _ _ _ _ w9 _ _) (hC.puth _) (fun w9 hC => ?_)
  refine g_putF (fs' := [.int 0, .int 0, .int 0, .ref q3, .ref q4, .ref q5, .int 0, .int 0, .ref q8, .ref q9, .int 0, .ref q11, .ref q12, .int 0, .ref q14, .ref q15, .ref q16, .int 0, .ref q18, .ref q19, .ref q20, .ref q21, .ref q22, .ref q23, .ref q24, .ref q25, .ref q26, .null, .null]) kc7 dX6_init_187 fw_X6_65 (by decide) rfl rfl hC.1 hb rfl rfl (Nat.le_of_ble_eq_true rfl) rfl ?_
  refine CS.op (P := fun w9 => Go _ _ _ _ _ _ _ _ _ _ w9 _ _) (hC.puta _) (fun w9 hC => ?_)
  refine g_aload0 dX6_init_190 ?_
  refine g_iconst (v := 4) dX6_init_191 (by decide) ?_
  refine g_newI (N := 4) dX6_init_192 ac_int (by decide) (by decide) (Nat.le_of_ble_eq_true rfl) (Nat.le_of_ble_eq_true rfl) (Nat.le_of_ble_eq_true rfl) (fun q27 q27n q27b => ?_)
  refine CS.op (P := fun w9 => Go _ _ _ _ _ _ _ _ _ _ w9 _ _) (hC.new q27n q27b) (fun w9 hC => ?_)
  refine g_dup dX6_init_194 rfl ?_
  refine g_iconst (v := 0) dX6_init_195 (by decide) ?_
  refine g_bipush (v := 100) dX6_init_196 (by decide) ?_
  refine g_iast dX6_init_198 (hC.2.1 _ List.mem_cons_self).1 (hC.2.1 _ List.mem_cons_self).2.1 (vp_in_nI (show 0 < 4 by decide) (by decide)) ?_
  refine CS.op (P := fun w9 => Go _ _ _ _ _ _ _ _ _ _ w9 _ _) (hC.puth _) (fun w9 hC => ?_)
  refine g_dup dX6_init_199 rfl ?_
  refine g_iconst (v := 1) dX6_init_200 (by decide) ?_
  refine g_bipush (v := 100) dX6_init_201 (by decide) ?_
  refine g_iast dX6_init_203 (hC.2.1 _ List.mem_cons_self).1 (hC.2.1 _ List.mem_cons_self).2.1 (vp_in_nI (show 1 < 4 by decide) (by decide)) ?_
  refine CS.op (P := fun w9 => Go _ _ _ _ _ _ _ _ _ _ w9 _ _) (hC.puth _) (fun w9 hC => ?_)
  refine g_dup dX6_init_204 rfl ?_
  refine g_iconst (v := 2) dX6_init_205 (by decide) ?_
  refine g_bipush (v := 100) dX6_init_206 (by decide) ?_
  refine g_iast dX6_init_208 (hC.2.1 _ List.mem_cons_self).1 (hC.2.1 _ List.mem_cons_self).2.1 (vp_in_nI (show 2 < 4 by decide) (by decide)) ?_
  refine CS.op (P := fun w9 => Go _ _ _ _ _ _ _ _ _ _ w9 _ _) (hC.puth _) (fun w9 hC => ?_)
  refine g_dup dX6_init_209 rfl ?_
  refine g_iconst (v := 3) dX6_init_210 (by decide) ?_
  refine g_bipush (v := 100) dX6_init_211 (by decide) ?_
  refine g_iast dX6_init_213 (hC.2.1 _ List.mem_cons_self).1 (hC.2.1 _ List.mem_cons_self).2.1 (vp_in_nI (show 3 < 4 by decide) (by decide)) ?_
  refine CS.op (P := fun w9 => Go _ _ _ _ _ _ _ _ _ _ w9 _ _) (hC.puth _) (fun w9 hC => ?_)
  refine g_putF (fs' := [.int 0, .int 0, .int 0, .ref q3, .ref q4, .ref q5, .int 0, .int 0, .ref q8, .ref q9, .int 0, .ref q11, .ref q12, .int 0, .ref q14, .ref q15, .ref q16, .int 0, .ref q18, .ref q19, .ref q20, .ref q21, .ref q22, .ref q23, .ref q24, .ref q25, .ref q26, .ref q27, .null]) kc7 dX6_init_214 fw_X6_68 (by decide) rfl rfl hC.1 hb rfl rfl (Nat.le_of_ble_eq_true rfl) rfl ?_
  refine CS.op (P := fun w9 => Go _ _ _ _ _ _ _ _ _ _ w9 _ _) (hC.puta _) (fun w9 hC => ?_)
  refine g_aload0 dX6_init_217 ?_
  refine g_bipush (v := 100) dX6_init_218 (by decide) ?_
  refine g_newZ (N := 100) dX6_init_220 ac_boolean (by decide) (by decide) (Nat.le_of_ble_eq_true rfl) (Nat.le_of_ble_eq_true rfl) (Nat.le_of_ble_eq_true rfl) (fun q28 q28n q28b => ?_)
  refine CS.op (P := fun w9 => Go _ _ _ _ _ _ _ _ _ _ w9 _ _) (hC.new q28n q28b) (fun w9 hC => ?_)
  refine g_putF (fs' := [.int 0, .int 0, .int 0, .ref q3, .ref q4, .ref q5, .int 0, .int 0, .ref q8, .ref q9, .int 0, .ref q11, .ref q12, .int 0, .ref q14, .ref q15, .ref q16, .int 0, .ref q18, .ref q19, .ref q20, .ref q21, .ref q22, .ref q23, .ref q24, .ref q25, .ref q26, .ref q27, .ref q28]) kc7 dX6_init_222 fw_X6_71 (by decide) rfl rfl hC.1 hb rfl rfl (Nat.le_of_ble_eq_true rfl) rfl ?_
  refine CS.op (P := fun w9 => Go _ _ _ _ _ _ _ _ _ _ w9 _ _) (hC.puta _) (fun w9 hC => ?_)
  refine g_vret dX6_init_225 ?_ (Nat.le_of_ble_eq_true rfl) (Nat.le_of_ble_eq_true rfl)
  obtain ⟨h1, h2⟩ := Mz.ofCS hC hb
  refine ⟨rfl, _, _, _, _, h1, rfl, ?_, h2, ?_⟩
  · intro i hi
    match i, hi with
    | 0, _ => exact ⟨rfl, rfl, rfl⟩
    | 1, _ => exact ⟨rfl, rfl, rfl⟩
    | 2, _ => exact ⟨rfl, rfl, rfl⟩
    | 3, _ => exact ⟨rfl, rfl, rfl⟩
    | n + 4, hi => exact absurd hi (by omega)
  · intro b hba hbn
    refine hC.2.2.2.1 b hba (fun hm => ?_)
    obtain ⟨p, hp, e⟩ := List.mem_map.mp hm
    have h9 := (hC.2.1 p hp).2.2
    rw [e] at h9
    exact hbn h9

