/-! Branches whose way is known; the contracts of the lists. -/
section DetRows
variable {G : Gx} {R : Room} {cc : ByteArray} {own : String} {Y : Yx} {C : Cx} {Q : State → Prop} {pc : Nat} {L : List (Option Value)} {st : List Value} {w : Wd} {c k : Nat}
theorem g_if_eq_t {x : Int32} {off : Int} {tgt : Nat} (d : decode cc pc = .ok (.ifCond .eq off, 3)) (ht : (pc : Int) + off = (tgt : Int)) (z : x = 0) (h : Go G R cc own Y C Q tgt L st w c k) : Go G R cc own Y C Q pc L (.int x :: st) w c k := g_if_eq d ht (fun _ => h) (fun q => absurd z q)
theorem g_if_eq_f {x : Int32} {off : Int} {tgt : Nat} (d : decode cc pc = .ok (.ifCond .eq off, 3)) (ht : (pc : Int) + off = (tgt : Int)) (z : ¬ x = 0) (h : Go G R cc own Y C Q (pc + 3) L st w c k) : Go G R cc own Y C Q pc L (.int x :: st) w c k := g_if_eq d ht (fun q => absurd q z) (fun _ => h)
theorem g_icmp_eq_t {x y : Int32} {off : Int} {tgt : Nat} (d : decode cc pc = .ok (.if_icmp .eq off, 3)) (ht : (pc : Int) + off = (tgt : Int)) (z : x = y) (h : Go G R cc own Y C Q tgt L st w c k) : Go G R cc own Y C Q pc L (.int y :: .int x :: st) w c k := g_icmp_eq d ht (fun _ => h) (fun q => absurd z q)
theorem g_icmp_eq_f {x y : Int32} {off : Int} {tgt : Nat} (d : decode cc pc = .ok (.if_icmp .eq off, 3)) (ht : (pc : Int) + off = (tgt : Int)) (z : ¬ x = y) (h : Go G R cc own Y C Q (pc + 3) L st w c k) : Go G R cc own Y C Q pc L (.int y :: .int x :: st) w c k := g_icmp_eq d ht (fun q => absurd q z) (fun _ => h)
theorem g_if_ne_t {x : Int32} {off : Int} {tgt : Nat} (d : decode cc pc = .ok (.ifCond .ne off, 3)) (ht : (pc : Int) + off = (tgt : Int)) (z : ¬ x = 0) (h : Go G R cc own Y C Q tgt L st w c k) : Go G R cc own Y C Q pc L (.int x :: st) w c k := g_if_ne d ht (fun _ => h) (fun q => absurd q z)
theorem g_if_ne_f {x : Int32} {off : Int} {tgt : Nat} (d : decode cc pc = .ok (.ifCond .ne off, 3)) (ht : (pc : Int) + off = (tgt : Int)) (z : x = 0) (h : Go G R cc own Y C Q (pc + 3) L st w c k) : Go G R cc own Y C Q pc L (.int x :: st) w c k := g_if_ne d ht (fun q => absurd z q) (fun _ => h)
theorem g_icmp_ne_t {x y : Int32} {off : Int} {tgt : Nat} (d : decode cc pc = .ok (.if_icmp .ne off, 3)) (ht : (pc : Int) + off = (tgt : Int)) (z : ¬ x = y) (h : Go G R cc own Y C Q tgt L st w c k) : Go G R cc own Y C Q pc L (.int y :: .int x :: st) w c k := g_icmp_ne d ht (fun _ => h) (fun q => absurd q z)
theorem g_icmp_ne_f {x y : Int32} {off : Int} {tgt : Nat} (d : decode cc pc = .ok (.if_icmp .ne off, 3)) (ht : (pc : Int) + off = (tgt : Int)) (z : x = y) (h : Go G R cc own Y C Q (pc + 3) L st w c k) : Go G R cc own Y C Q pc L (.int y :: .int x :: st) w c k := g_icmp_ne d ht (fun q => absurd z q) (fun _ => h)
theorem g_if_lt_t {x : Int32} {off : Int} {tgt : Nat} (d : decode cc pc = .ok (.ifCond .lt off, 3)) (ht : (pc : Int) + off = (tgt : Int)) (z : x < 0) (h : Go G R cc own Y C Q tgt L st w c k) : Go G R cc own Y C Q pc L (.int x :: st) w c k := g_if_lt d ht (fun _ => h) (fun q => absurd z q)
theorem g_if_lt_f {x : Int32} {off : Int} {tgt : Nat} (d : decode cc pc = .ok (.ifCond .lt off, 3)) (ht : (pc : Int) + off = (tgt : Int)) (z : ¬ x < 0) (h : Go G R cc own Y C Q (pc + 3) L st w c k) : Go G R cc own Y C Q pc L (.int x :: st) w c k := g_if_lt d ht (fun q => absurd q z) (fun _ => h)
theorem g_icmp_lt_t {x y : Int32} {off : Int} {tgt : Nat} (d : decode cc pc = .ok (.if_icmp .lt off, 3)) (ht : (pc : Int) + off = (tgt : Int)) (z : x < y) (h : Go G R cc own Y C Q tgt L st w c k) : Go G R cc own Y C Q pc L (.int y :: .int x :: st) w c k := g_icmp_lt d ht (fun _ => h) (fun q => absurd z q)
theorem g_icmp_lt_f {x y : Int32} {off : Int} {tgt : Nat} (d : decode cc pc = .ok (.if_icmp .lt off, 3)) (ht : (pc : Int) + off = (tgt : Int)) (z : ¬ x < y) (h : Go G R cc own Y C Q (pc + 3) L st w c k) : Go G R cc own Y C Q pc L (.int y :: .int x :: st) w c k := g_icmp_lt d ht (fun q => absurd q z) (fun _ => h)
theorem g_if_ge_t {x : Int32} {off : Int} {tgt : Nat} (d : decode cc pc = .ok (.ifCond .ge off, 3)) (ht : (pc : Int) + off = (tgt : Int)) (z : 0 ≤ x) (h : Go G R cc own Y C Q tgt L st w c k) : Go G R cc own Y C Q pc L (.int x :: st) w c k := g_if_ge d ht (fun _ => h) (fun q => absurd z q)
theorem g_if_ge_f {x : Int32} {off : Int} {tgt : Nat} (d : decode cc pc = .ok (.ifCond .ge off, 3)) (ht : (pc : Int) + off = (tgt : Int)) (z : ¬ 0 ≤ x) (h : Go G R cc own Y C Q (pc + 3) L st w c k) : Go G R cc own Y C Q pc L (.int x :: st) w c k := g_if_ge d ht (fun q => absurd q z) (fun _ => h)
theorem g_icmp_ge_t {x y : Int32} {off : Int} {tgt : Nat} (d : decode cc pc = .ok (.if_icmp .ge off, 3)) (ht : (pc : Int) + off = (tgt : Int)) (z : y ≤ x) (h : Go G R cc own Y C Q tgt L st w c k) : Go G R cc own Y C Q pc L (.int y :: .int x :: st) w c k := g_icmp_ge d ht (fun _ => h) (fun q => absurd z q)
theorem g_icmp_ge_f {x y : Int32} {off : Int} {tgt : Nat} (d : decode cc pc = .ok (.if_icmp .ge off, 3)) (ht : (pc : Int) + off = (tgt : Int)) (z : ¬ y ≤ x) (h : Go G R cc own Y C Q (pc + 3) L st w c k) : Go G R cc own Y C Q pc L (.int y :: .int x :: st) w c k := g_icmp_ge d ht (fun q => absurd q z) (fun _ => h)
theorem g_if_gt_t {x : Int32} {off : Int} {tgt : Nat} (d : decode cc pc = .ok (.ifCond .gt off, 3)) (ht : (pc : Int) + off = (tgt : Int)) (z : 0 < x) (h : Go G R cc own Y C Q tgt L st w c k) : Go G R cc own Y C Q pc L (.int x :: st) w c k := g_if_gt d ht (fun _ => h) (fun q => absurd z q)
theorem g_if_gt_f {x : Int32} {off : Int} {tgt : Nat} (d : decode cc pc = .ok (.ifCond .gt off, 3)) (ht : (pc : Int) + off = (tgt : Int)) (z : ¬ 0 < x) (h : Go G R cc own Y C Q (pc + 3) L st w c k) : Go G R cc own Y C Q pc L (.int x :: st) w c k := g_if_gt d ht (fun q => absurd q z) (fun _ => h)
theorem g_icmp_gt_t {x y : Int32} {off : Int} {tgt : Nat} (d : decode cc pc = .ok (.if_icmp .gt off, 3)) (ht : (pc : Int) + off = (tgt : Int)) (z : y < x) (h : Go G R cc own Y C Q tgt L st w c k) : Go G R cc own Y C Q pc L (.int y :: .int x :: st) w c k := g_icmp_gt d ht (fun _ => h) (fun q => absurd z q)
theorem g_icmp_gt_f {x y : Int32} {off : Int} {tgt : Nat} (d : decode cc pc = .ok (.if_icmp .gt off, 3)) (ht : (pc : Int) + off = (tgt : Int)) (z : ¬ y < x) (h : Go G R cc own Y C Q (pc + 3) L st w c k) : Go G R cc own Y C Q pc L (.int y :: .int x :: st) w c k := g_icmp_gt d ht (fun q => absurd q z) (fun _ => h)
theorem g_if_le_t {x : Int32} {off : Int} {tgt : Nat} (d : decode cc pc = .ok (.ifCond .le off, 3)) (ht : (pc : Int) + off = (tgt : Int)) (z : x ≤ 0) (h : Go G R cc own Y C Q tgt L st w c k) : Go G R cc own Y C Q pc L (.int x :: st) w c k := g_if_le d ht (fun _ => h) (fun q => absurd z q)
theorem g_if_le_f {x : Int32} {off : Int} {tgt : Nat} (d : decode cc pc = .ok (.ifCond .le off, 3)) (ht : (pc : Int) + off = (tgt : Int)) (z : ¬ x ≤ 0) (h : Go G R cc own Y C Q (pc + 3) L st w c k) : Go G R cc own Y C Q pc L (.int x :: st) w c k := g_if_le d ht (fun q => absurd q z) (fun _ => h)
theorem g_icmp_le_t {x y : Int32} {off : Int} {tgt : Nat} (d : decode cc pc = .ok (.if_icmp .le off, 3)) (ht : (pc : Int) + off = (tgt : Int)) (z : x ≤ y) (h : Go G R cc own Y C Q tgt L st w c k) : Go G R cc own Y C Q pc L (.int y :: .int x :: st) w c k := g_icmp_le d ht (fun _ => h) (fun q => absurd z q)
theorem g_icmp_le_f {x y : Int32} {off : Int} {tgt : Nat} (d : decode cc pc = .ok (.if_icmp .le off, 3)) (ht : (pc : Int) + off = (tgt : Int)) (z : ¬ x ≤ y) (h : Go G R cc own Y C Q (pc + 3) L st w c k) : Go G R cc own Y C Q pc L (.int y :: .int x :: st) w c k := g_icmp_le d ht (fun q => absurd q z) (fun _ => h)
theorem g_acmp_eq_t {x y : Nat} {off : Int} {tgt : Nat} (d : decode cc pc = .ok (.if_acmp .eq off, 3)) (ht : (pc : Int) + off = (tgt : Int)) (z : x = y) (h : Go G R cc own Y C Q tgt L st w c k) : Go G R cc own Y C Q pc L (.ref y :: .ref x :: st) w c k := g_acmp_eq d ht (fun _ => h) (fun q => absurd z q)
theorem g_acmp_eq_f {x y : Nat} {off : Int} {tgt : Nat} (d : decode cc pc = .ok (.if_acmp .eq off, 3)) (ht : (pc : Int) + off = (tgt : Int)) (z : ¬ x = y) (h : Go G R cc own Y C Q (pc + 3) L st w c k) : Go G R cc own Y C Q pc L (.ref y :: .ref x :: st) w c k := g_acmp_eq d ht (fun q => absurd q z) (fun _ => h)
theorem g_acmp_ne_t {x y : Nat} {off : Int} {tgt : Nat} (d : decode cc pc = .ok (.if_acmp .ne off, 3)) (ht : (pc : Int) + off = (tgt : Int)) (z : ¬ x = y) (h : Go G R cc own Y C Q tgt L st w c k) : Go G R cc own Y C Q pc L (.ref y :: .ref x :: st) w c k := g_acmp_ne d ht (fun _ => h) (fun q => absurd q z)
theorem g_acmp_ne_f {x y : Nat} {off : Int} {tgt : Nat} (d : decode cc pc = .ok (.if_acmp .ne off, 3)) (ht : (pc : Int) + off = (tgt : Int)) (z : x = y) (h : Go G R cc own Y C Q (pc + 3) L st w c k) : Go G R cc own Y C Q pc L (.ref y :: .ref x :: st) w c k := g_acmp_ne d ht (fun q => absurd z q) (fun _ => h)
end DetRows
abbrev rm_Jxa1e45_init_da8c8 : Room := { frames := 1, cells := 0, slots := 0, locals := 20 }

set_option maxRecDepth 100000 in
theorem ct_ac_init {G : Gx} {w : Wd} {a : Nat} : Ct G yJxa1e45_init_da8c8 kw_Jxa1e45_init_da8c8 rm_Jxa1e45_init_da8c8 [.ref a] w (PU w) := by
  refine ct_intro RJxa1e45 "<init>" (by decide +kernel) rfl rfl rfl (Nat.le_of_ble_eq_true rfl) [some (.ref a)] rfl (fun C => ?_)
  refine g_aload0 dJxa1e45_init_da8c8_0 ?_
  refine g_objInit dJxa1e45_init_da8c8_1 ml_Jxa1e45_1 im_oi cd_oi (Nat.le_of_ble_eq_true rfl) (Nat.le_of_ble_eq_true rfl) ?_
  refine g_vret dJxa1e45_init_da8c8_4 ?_ (Nat.le_of_ble_eq_true rfl) (Nat.le_of_ble_eq_true rfl)
  exact ⟨rfl, rfl⟩

abbrev rm_Jxc12de_init_da8c8 : Room := { frames := 2, cells := 0, slots := 0, locals := 40 }

set_option maxRecDepth 100000 in
theorem ct_al_init {G : Gx} {w : Wd} {a d : Nat} {m n : Int32} {dv : Value} (ha : w a = some (eO 0 [.int m, dv, .int n])) (hb : (gH G).size ≤ a) : Ct G yJxc12de_init_da8c8 kw_Jxc12de_init_da8c8 rm_Jxc12de_init_da8c8 [.ref a] w (PN (fun w' => w' = up w a (eO 0 [.int 0, dv, .int n]))) := by
  refine ct_intro RJxc12de "<init>" (by decide +kernel) rfl rfl rfl (Nat.le_of_ble_eq_true rfl) [some (.ref a)] rfl (fun C => ?_)
  refine g_aload0 dJxc12de_init_da8c8_0 ?_
  refine g_callI0 (ct_ac_init (a := a)) md_Jxa1e45_init_da8c8 dJxc12de_init_da8c8_1 ml_Jxc12de_1 rfl im_Jxa1e45_init_da8c8 (RmOk.of (Nat.le_of_ble_eq_true rfl) (Nat.le_of_ble_eq_true rfl) (Nat.le_of_ble_eq_true rfl) (Nat.le_of_ble_eq_true rfl) (Nat.le_of_ble_eq_true rfl)) (kr_U ?_) kn_U
  refine g_aload0 dJxc12de_init_da8c8_4 ?_
  refine g_iconst (v := 0) dJxc12de_init_da8c8_5 (by decide) ?_
  refine g_putf (fs' := [.int 0, dv, .int n]) (kf := 0) kc0 dJxc12de_init_da8c8_6 (FL.w fs_Jxc12de_7) (by decide) rfl ha hb rfl rfl (Nat.le_of_ble_eq_true rfl) rfl ?_
  refine g_vret dJxc12de_init_da8c8_9 ?_ (Nat.le_of_ble_eq_true rfl) (Nat.le_of_ble_eq_true rfl)
  exact ⟨rfl, rfl⟩

abbrev rm_Jx4a65c_init_da8c8 : Room := { frames := 3, cells := 0, slots := 0, locals := 60 }

set_option maxRecDepth 100000 in
theorem ct_arl_init {G : Gx} {w : Wd} {a : Nat} (ha : w a = some (eO 0 [.int 0, .null, .int 0])) (hb : (gH G).size ≤ a) : Ct G yJx4a65c_init_da8c8 kw_Jx4a65c_init_da8c8 rm_Jx4a65c_init_da8c8 [.ref a] w (PN (fun w' => w' a = some (eO 0 [.int 0, .ref (gE G), .int 0]) ∧ ∀ b, b ≠ a → w' b = w b)) := by
  refine ct_intro RJx4a65c "<init>" (by decide +kernel) rfl rfl rfl (Nat.le_of_ble_eq_true rfl) [some (.ref a)] rfl (fun C => ?_)
  refine g_aload0 dJx4a65c_init_da8c8_0 ?_
  refine g_callI0 (ct_al_init (d := 0) (dv := .null) ha hb) md_Jxc12de_init_da8c8 dJx4a65c_init_da8c8_1 ml_Jx4a65c_1 rfl im_Jxc12de_init_da8c8 (RmOk.of (Nat.le_of_ble_eq_true rfl) (Nat.le_of_ble_eq_true rfl) (Nat.le_of_ble_eq_true rfl) (Nat.le_of_ble_eq_true rfl) (Nat.le_of_ble_eq_true rfl)) (kr_N (fun w1 hw1 => ?_)) kn_N
  subst hw1
  refine g_aload0 dJx4a65c_init_da8c8_4 ?_
  refine g_gsE dJx4a65c_init_da8c8_5 fs_Jx4a65c_39 ?_
  refine g_putf (fs' := [.int 0, .ref (gE G), .int 0]) kc0 dJx4a65c_init_da8c8_8 fl_Jx4a65c_9 (by decide) rfl (up_s _ _ _) hb rfl rfl (Nat.le_of_ble_eq_true rfl) rfl ?_
  refine g_vret dJx4a65c_init_da8c8_11 ?_ (Nat.le_of_ble_eq_true rfl) (Nat.le_of_ble_eq_true rfl)
  exact ⟨rfl, up_s _ _ _, fun b h => by rw [up_n h, up_n h]⟩

abbrev rm_Jx4a65c_size_8abf5 : Room := { frames := 0, cells := 0, slots := 0, locals := 0 }

set_option maxRecDepth 100000 in
theorem ct_size {G : Gx} {w : Wd} {a : Nat} {m n : Int32} {dv : Value} (ha : w a = some (eO 0 [.int m, dv, .int n])) : Ct G yJx4a65c_size_8abf5 kw_Jx4a65c_size_8abf5 rm_Jx4a65c_size_8abf5 [.ref a] w (PV (.int n) w) := by
  refine ct_intro RJx4a65c "size" (by decide +kernel) rfl rfl rfl (Nat.le_of_ble_eq_true rfl) [some (.ref a)] rfl (fun C => ?_)
  refine g_aload0 dJx4a65c_size_8abf5_0 ?_
  refine g_getf kc0 dJx4a65c_size_8abf5_1 fl_Jx4a65c_48 (by decide) ha rfl ?_
  refine g_iret dJx4a65c_size_8abf5_4 ?_ (Nat.le_of_ble_eq_true rfl) (Nat.le_of_ble_eq_true rfl)
  exact ⟨rfl, rfl⟩

abbrev rm_Jx4a65c_elementData_915e3 : Room := { frames := 0, cells := 0, slots := 0, locals := 0 }

set_option maxRecDepth 100000 in
theorem ct_ed {G : Gx} {w : Wd} {a dd j cap q : Nat} {m n : Int32} {f : Nat → Option Nat} (ha : w a = some (eO 0 [.int m, .ref dd, .int n])) (hd : w dd = some (eQ G cap f)) (hj : j < cap) (hc : cap < 2 ^ 31) (hq : f j = some q) : Ct G yJx4a65c_elementData_915e3 kw_Jx4a65c_elementData_915e3 rm_Jx4a65c_elementData_915e3 [.ref a, .int (nI j)] w (PV (.ref q) w) := by
  refine ct_intro RJx4a65c "elementData" (by decide +kernel) rfl rfl rfl (Nat.le_of_ble_eq_true rfl) [some (.ref a), some (.int (nI j))] rfl (fun C => ?_)
  refine g_aload0 dJx4a65c_elementData_915e3_0 ?_
  refine g_getf kc0 dJx4a65c_elementData_915e3_1 fl_Jx4a65c_9 (by decide) ha rfl ?_
  refine g_iload1 dJx4a65c_elementData_915e3_4 ?_
  refine g_qald dJx4a65c_elementData_915e3_5 hd (vp_in_nI hj hc) (by rw [nI_clamp (by omega), hq]; first | done | rfl) ?_
  refine g_aret (Or.inl ⟨_, rfl⟩) dJx4a65c_elementData_915e3_6 ?_ (Nat.le_of_ble_eq_true rfl) (Nat.le_of_ble_eq_true rfl)
  exact ⟨rfl, rfl⟩

abbrev rm_J3_checkIndex_8e157 : Room := { frames := 0, cells := 0, slots := 0, locals := 0 }

set_option maxRecDepth 100000 in
theorem ct_pci {G : Gx} {w : Wd} {j n : Nat} (hj : j < n) (hn : n < 2 ^ 31) : Ct G yJ3_checkIndex_8e157 kw_J3_checkIndex_8e157 rm_J3_checkIndex_8e157 [.int (nI j), .int (nI n), .null] w (PV (.int (nI j)) w) := by
  refine ct_intro RJ3 "checkIndex" (by decide +kernel) rfl rfl rfl (Nat.le_of_ble_eq_true rfl) [some (.int (nI j)), some (.int (nI n)), some .null] rfl (fun C => ?_)
  refine g_iload0 dJ3_checkIndex_8e157_0 ?_
  refine g_if_lt_f (tgt := 9) dJ3_checkIndex_8e157_1 (by decide) (nI_pos (by omega)) ?_
  refine g_iload0 dJ3_checkIndex_8e157_4 ?_
  refine g_iload1 dJ3_checkIndex_8e157_5 ?_
  refine g_icmp_lt_t (tgt := 16) dJ3_checkIndex_8e157_6 (by decide) (nI_lt hj hn) ?_
  refine g_iload0 dJ3_checkIndex_8e157_16 ?_
  refine g_iret dJ3_checkIndex_8e157_17 ?_ (Nat.le_of_ble_eq_true rfl) (Nat.le_of_ble_eq_true rfl)
  exact ⟨rfl, rfl⟩

abbrev rm_J15_checkIndex_7cf53 : Room := { frames := 1, cells := 0, slots := 0, locals := 22 }

set_option maxRecDepth 100000 in
theorem ct_oci {G : Gx} {w : Wd} {j n : Nat} (hj : j < n) (hn : n < 2 ^ 31) : Ct G yJ15_checkIndex_7cf53 kw_J15_checkIndex_7cf53 rm_J15_checkIndex_7cf53 [.int (nI j), .int (nI n)] w (PV (.int (nI j)) w) := by
  refine ct_intro RJ15 "checkIndex" (by decide +kernel) rfl rfl rfl (Nat.le_of_ble_eq_true rfl) [some (.int (nI j)), some (.int (nI n))] rfl (fun C => ?_)
  refine g_iload0 dJ15_checkIndex_7cf53_0 ?_
  refine g_iload1 dJ15_checkIndex_7cf53_1 ?_
  refine g_anull dJ15_checkIndex_7cf53_2 ?_
  refine g_callS3 (ct_pci hj hn) md_J3_checkIndex_8e157 dJ15_checkIndex_7cf53_3 ml_J15_105 st_J3_checkIndex_8e157 (RmOk.of (Nat.le_of_ble_eq_true rfl) (Nat.le_of_ble_eq_true rfl) (Nat.le_of_ble_eq_true rfl) (Nat.le_of_ble_eq_true rfl) (Nat.le_of_ble_eq_true rfl)) (kr_V ?_) kx_V
  refine g_iret dJ15_checkIndex_7cf53_6 ?_ (Nat.le_of_ble_eq_true rfl) (Nat.le_of_ble_eq_true rfl)
  exact ⟨rfl, rfl⟩

abbrev rm_Jx4a65c_get_915e3 : Room := { frames := 2, cells := 0, slots := 0, locals := 43 }

set_option maxRecDepth 100000 in
theorem ct_get {G : Gx} {w : Wd} {a dd j cap q n : Nat} {m : Int32} {f : Nat → Option Nat} (ha : w a = some (eO 0 [.int m, .ref dd, .int (nI n)])) (hd : w dd = some (eQ G cap f)) (hj : j < n) (hnc : n ≤ cap) (hc : cap < 2 ^ 31) (hq : f j = some q) : Ct G yJx4a65c_get_915e3 kw_Jx4a65c_get_915e3 rm_Jx4a65c_get_915e3 [.ref a, .int (nI j)] w (PV (.ref q) w) := by
  refine ct_intro RJx4a65c "get" (by decide +kernel) rfl rfl rfl (Nat.le_of_ble_eq_true rfl) [some (.ref a), some (.int (nI j))] rfl (fun C => ?_)
  refine g_iload1 dJx4a65c_get_915e3_0 ?_
  refine g_aload0 dJx4a65c_get_915e3_1 ?_
  refine g_getf kc0 dJx4a65c_get_915e3_2 fl_Jx4a65c_48 (by decide) ha rfl ?_
  refine g_callS2 (ct_oci hj (by omega)) md_J15_checkIndex_7cf53 dJx4a65c_get_915e3_5 ml_Jx4a65c_118 st_J15_checkIndex_7cf53 (RmOk.of (Nat.le_of_ble_eq_true rfl) (Nat.le_of_ble_eq_true rfl) (Nat.le_of_ble_eq_true rfl) (Nat.le_of_ble_eq_true rfl) (Nat.le_of_ble_eq_true rfl)) (kr_V ?_) kx_V
  refine g_pop dJx4a65c_get_915e3_8 rfl ?_
  refine g_aload0 dJx4a65c_get_915e3_9 ?_
  refine g_iload1 dJx4a65c_get_915e3_10 ?_
  refine g_callV1 kc0 (ct_ed ha hd (by omega) hc hq) md_Jx4a65c_elementData_915e3 dJx4a65c_get_915e3_11 ml_Jx4a65c_123 im_Jx4a65c_elementData_915e3 se_Jx4a65c_elementData_915e3 ha (RmOk.of (Nat.le_of_ble_eq_true rfl) (Nat.le_of_ble_eq_true rfl) (Nat.le_of_ble_eq_true rfl) (Nat.le_of_ble_eq_true rfl) (Nat.le_of_ble_eq_true rfl)) (kr_V ?_) kx_V
  refine g_aret (Or.inl ⟨_, rfl⟩) dJx4a65c_get_915e3_14 ?_ (Nat.le_of_ble_eq_true rfl) (Nat.le_of_ble_eq_true rfl)
  exact ⟨rfl, rfl⟩

/-- answers a reference and a world of which B holds -/
def PR (B : Nat → Wd → Prop) : RV → Wd → Prop := fun r w' => ∃ q, r = .inl (some (.ref q)) ∧ B q w'
section ContR
variable {B : Nat → Wd → Prop} {K : Option Value → Wd → Prop} {KX : String → Wd → Prop}
theorem kr_R (h : ∀ q w', B q w' → K (some (.ref q)) w') : ∀ v' w', PR B (.inl v') w' → K v' w' := fun _ _ hp => by obtain ⟨q, h1, h2⟩ := hp; cases h1; exact h _ _ h2
theorem kx_R : ∀ E w', PR B (.inr E) w' → KX E w' := fun _ _ hp => by obtain ⟨q, h1, h2⟩ := hp; cases h1
theorem kn_R : ∀ E w', ¬ PR B (.inr E) w' := fun _ _ hp => by obtain ⟨q, h1, h2⟩ := hp; cases h1
end ContR
theorem up_up (w : Wd) (a : Nat) (e e' : va_E) : up (up w a e) a e' = up w a e' := by
  funext q
  unfold up
  by_cases h : q = a
  · rw [if_pos h, if_pos h]
  · rw [if_neg h, if_neg h, if_neg h]
/-- what a list's array holds: its elements, then nothing -/
def lf (n : Nat) (el : Nat → Nat) : Nat → Option Nat := fun j => if j < n then some (el j) else none
theorem lf_cpy (n : Nat) (el : Nat → Nat) : va_cpy (lf n el) (fun _ => none) 0 0 n = lf n el := by
  funext j
  unfold va_cpy lf
  by_cases h : j < n
  · rw [if_pos ⟨Nat.zero_le _, by omega⟩, if_pos (by omega), if_pos h]; congr 2; omega
  · rw [if_neg (by omega), if_neg h]
theorem lf_add (n : Nat) (el : Nat → Nat) (v : Nat) : va_up (lf n el) n (some v) = lf (n + 1) (va_up el n v) := by
  funext j
  unfold va_up lf
  by_cases h : j = n
  · subst h
    rw [if_pos rfl, if_pos (by omega)]
    show some v = some (if j = j then v else el j)
    rw [if_pos rfl]
  · rw [if_neg h]
    by_cases h2 : j < n
    · rw [if_pos h2, if_pos (by omega)]
      show some (el j) = some (if j = n then v else el j)
      rw [if_neg h]
    · rw [if_neg h2, if_neg (by omega)]
theorem lf_at {n j : Nat} {el : Nat → Nat} (h : j < n) : lf n el j = some (el j) := if_pos h
/-- how long the array is after it has grown -/
def gcap (cap : Nat) : Nat := if cap = 0 then 10 else cap + cap / 2
theorem ne_of_cell {w : Wd} {a b : Nat} {e e' : va_E} (h1 : w a = some e) (h2 : w b = some e') (hn : e ≠ e') : a ≠ b := fun h => by subst h; exact hn (Option.some.inj (h1.symm.trans h2))
theorem ne_of_new {w : Wd} {a b : Nat} {e : va_E} (h1 : w a = some e) (h2 : w b = none) : a ≠ b := fun h => by subst h; rw [h1] at h2; cases h2

section MathRows
variable {G : Gx} {R : Room} {cc : ByteArray} {own : String} {Y : Yx} {C : Cx} {Q : State → Prop} {pc : Nat} {L : List (Option Value)} {st : List Value} {w : Wd} {c k : Nat}
theorem g_mmax {idx a b : Nat} (ha : a < 2 ^ 31) (hb : b < 2 ^ 31) (d : decode cc pc = .ok (.invokestatic idx, 3)) (h1 : Cond.methodLink own idx Lib.Math.max.name ∈ tw) (hf : 1 ≤ R.frames) (hl : (st.map fun v => v.category).sum + 13 ≤ R.locals) (hc : c ≤ R.cells) (hk : k ≤ R.slots) (h : Go G R cc own Y C Q (pc + 3) L (.int (nI (max a b)) :: st) w c k) : Go G R cc own Y C Q pc L (.int (nI b) :: .int (nI a) :: st) w c k := by
  obtain ⟨p, e, s, m, args, below, meth, cd⟩ := C
  intro O H ls locs hR hS hL
  have e : nI (max a b) = if nI a < nI b then nI b else nI a := by
    by_cases q : a < b
    · rw [if_pos ((nI_ltI ha hb).mpr q), Nat.max_eq_right (Nat.le_of_lt q)]
    · rw [if_neg (fun z => q ((nI_ltI ha hb).mp z)), Nat.max_eq_left (Nat.le_of_not_lt q)]
  rw [e] at h
  exact va_mmax O.1 O.2.1 hL.1.symm O.2.2.1 (O.2.2.2.1.w h1) (O.2.2.2.1.w sm_max) (O.2.2.2.1.w ini_J9) (O.2.2.2.1.w cm_max) hf hl hc hk d (h O H ls locs hR hS hL)
theorem g_mmin {idx a b : Nat} (ha : a < 2 ^ 31) (hb : b < 2 ^ 31) (d : decode cc pc = .ok (.invokestatic idx, 3)) (h1 : Cond.methodLink own idx Lib.Math.min.name ∈ tw) (hf : 1 ≤ R.frames) (hl : (st.map fun v => v.category).sum + 13 ≤ R.locals) (hc : c ≤ R.cells) (hk : k ≤ R.slots) (h : Go G R cc own Y C Q (pc + 3) L (.int (nI (min a b)) :: st) w c k) : Go G R cc own Y C Q pc L (.int (nI b) :: .int (nI a) :: st) w c k := by
  obtain ⟨p, e, s, m, args, below, meth, cd⟩ := C
  intro O H ls locs hR hS hL
  have e : nI (min a b) = if nI b < nI a then nI b else nI a := by
    by_cases q : b < a
    · rw [if_pos ((nI_ltI hb ha).mpr q), Nat.min_eq_right (Nat.le_of_lt q)]
    · rw [if_neg (fun z => q ((nI_ltI hb ha).mp z)), Nat.min_eq_left (Nat.le_of_not_lt q)]
  rw [e] at h
  exact va_mmin O.1 O.2.1 hL.1.symm O.2.2.1 (O.2.2.2.1.w h1) (O.2.2.2.1.w sm_min) (O.2.2.2.1.w ini_J9) (O.2.2.2.1.w cm_min) hf hl hc hk d (h O H ls locs hR hS hL)
end MathRows

abbrev rm_J8_newLength_cabcc : Room := { frames := 1, cells := 0, slots := 0, locals := 20 }

set_option maxRecDepth 100000 in
theorem ct_newLen {G : Gx} {w : Wd} {cap : Nat} (h2 : 2 ≤ cap) (hc : cap ≤ 40000) : Ct G yJ8_newLength_cabcc kw_J8_newLength_cabcc rm_J8_newLength_cabcc [.int (nI cap), .int (nI 1), .int (nI (cap / 2))] w (PV (.int (nI (cap + cap / 2))) w) := by
  refine ct_intro RJ8 "newLength" (by decide +kernel) rfl rfl rfl (Nat.le_of_ble_eq_true rfl) [some (.int (nI cap)), some (.int (nI 1)), some (.int (nI (cap / 2))), none] rfl (fun C => ?_)
  refine g_iload0 dJ8_newLength_cabcc_0 ?_
  refine g_iload1 dJ8_newLength_cabcc_1 ?_
  refine g_iload2 dJ8_newLength_cabcc_2 ?_
  refine g_mmax (by omega) (by omega) dJ8_newLength_cabcc_3 ml_J8_194 (Nat.le_of_ble_eq_true rfl) (Nat.le_of_ble_eq_true rfl) (Nat.le_of_ble_eq_true rfl) (Nat.le_of_ble_eq_true rfl) ?_
  rw [Nat.max_eq_right (show 1 ≤ cap / 2 by omega)]
  refine g_iadd dJ8_newLength_cabcc_6 ?_
  rw [nI_add]
  refine g_istore3 dJ8_newLength_cabcc_7 ?_
  refine g_iconst (v := 0) dJ8_newLength_cabcc_8 (by decide) ?_
  refine g_iload3 dJ8_newLength_cabcc_9 ?_
  refine g_icmp_ge_f (tgt := 21) dJ8_newLength_cabcc_10 (by decide) (show ¬ nI (cap + cap / 2) ≤ nI 0 from fun h => absurd ((nI_leI (by omega) (by omega)).mp h) (by omega)) ?_
  refine g_iload3 dJ8_newLength_cabcc_13 ?_
  refine g_ldcI (v := 2147483639) dJ8_newLength_cabcc_14 kc_J8_200 ?_
  refine g_icmp_gt_f (tgt := 21) dJ8_newLength_cabcc_16 (by decide) (show ¬ nI 2147483639 < nI (cap + cap / 2) from fun h => absurd ((nI_ltI (by decide) (by omega)).mp h) (by omega)) ?_
  refine g_iload3 dJ8_newLength_cabcc_19 ?_
  refine g_iret dJ8_newLength_cabcc_20 ?_ (Nat.le_of_ble_eq_true rfl) (Nat.le_of_ble_eq_true rfl)
  exact ⟨rfl, rfl⟩

abbrev rm_J7_copyOf_6403c (nl : Nat) : Room := { frames := 1, cells := 1, slots := nl, locals := 60 }
abbrev rm_J7_copyOf_1904c (nl : Nat) : Room := { frames := 2, cells := 1, slots := nl, locals := 83 }
set_option maxRecDepth 100000 in
theorem ct_copy3 {G : Gx} {w : Wd} {a0 n nl ci N : Nat} {el : Nat → Nat} {Cn : String} {T : u_T} {ty : Nat → FieldType} (hk : KC ci Cn T N ty) (hca : Cond.castable Cn "java/lang/Object" ∈ tw) (hw0 : w a0 = some (eQ G n (lf n el))) (hel : ∀ i, i < n → ∃ vs, w (el i) = some (eO ci vs)) (hn : n ≤ nl) (hnl : nl ≤ 100000) : Ct G yJ7_copyOf_6403c kw_J7_copyOf_6403c (rm_J7_copyOf_6403c nl) [.ref a0, .int (nI nl), .ref (gM G)] w (PR (fun q w' => w q = none ∧ (gH G).size ≤ q ∧ w' = up w q (eQ G nl (lf n el)))) := by
  refine ct_intro RJ7 "copyOf" (by decide +kernel) rfl rfl rfl (Nat.le_of_ble_eq_true rfl) [some (.ref a0), some (.int (nI nl)), some (.ref (gM G)), none] rfl (fun C => ?_)
  refine g_aload2 dJ7_copyOf_6403c_0 ?_
  refine g_ldcM dJ7_copyOf_6403c_1 cl_J7_110 ?_
  refine g_acmp_ne_f (tgt := 13) dJ7_copyOf_6403c_3 (by decide) rfl ?_
  refine g_iload1 dJ7_copyOf_6403c_6 ?_
  refine g_newQ (N := nl) dJ7_copyOf_6403c_7 cl_J7_2 (nI_pos (by omega)) (nI_clamp (by omega)) (by omega) (Nat.le_of_ble_eq_true rfl) (by show _ ≤ nl; omega) (fun q qn qb => ?_)
  refine g_goto (tgt := 24) dJ7_copyOf_6403c_10 (by decide) ?_
  refine g_astore3 dJ7_copyOf_6403c_24 ?_
  have h0 : a0 ≠ q := ne_of_new hw0 qn
  refine g_aload0 dJ7_copyOf_6403c_25 ?_
  refine g_iconst (v := 0) dJ7_copyOf_6403c_26 (by decide) ?_
  refine g_aload3 dJ7_copyOf_6403c_27 ?_
  refine g_iconst (v := 0) dJ7_copyOf_6403c_28 (by decide) ?_
  refine g_aload0 dJ7_copyOf_6403c_29 ?_
  refine g_alenQ dJ7_copyOf_6403c_30 ((up_n h0).trans hw0) ?_
  refine g_iload1 dJ7_copyOf_6403c_31 ?_
  refine g_mmin (by omega) (by omega) dJ7_copyOf_6403c_32 ml_J7_304 (Nat.le_of_ble_eq_true rfl) (Nat.le_of_ble_eq_true rfl) (Nat.le_of_ble_eq_true rfl) (by show 0 + nl ≤ nl; omega) ?_
  rw [Nat.min_eq_left hn]
  refine g_copyq hk hca dJ7_copyOf_6403c_35 ml_J7_150 ini_J10 ((up_n h0).trans hw0) (up_s _ _ _) qb (by omega) (Nat.le_refl n) hn (fun i hi y hy => ?_) (Nat.le_of_ble_eq_true rfl) (Nat.le_of_ble_eq_true rfl) ?_
  · rw [lf_at hi] at hy
    cases hy
    obtain ⟨vs, hv⟩ := hel i hi
    exact ⟨vs, (up_n (ne_of_new hv qn)).trans hv⟩
  rw [up_up, lf_cpy]
  refine g_aload3 dJ7_copyOf_6403c_38 ?_
  refine g_aret (Or.inr ⟨_, rfl⟩) dJ7_copyOf_6403c_39 ?_ (Nat.le_of_ble_eq_true rfl) (by show _ ≤ nl; omega)
  exact ⟨q, rfl, qn, qb, rfl⟩

set_option maxRecDepth 100000 in
theorem ct_copy2 {G : Gx} {w : Wd} {a0 n nl ci N : Nat} {el : Nat → Nat} {Cn : String} {T : u_T} {ty : Nat → FieldType} (hk : KC ci Cn T N ty) (hca : Cond.castable Cn "java/lang/Object" ∈ tw) (hw0 : w a0 = some (eQ G n (lf n el))) (hel : ∀ i, i < n → ∃ vs, w (el i) = some (eO ci vs)) (hn : n ≤ nl) (hnl : nl ≤ 100000) : Ct G yJ7_copyOf_1904c kw_J7_copyOf_1904c (rm_J7_copyOf_1904c nl) [.ref a0, .int (nI nl)] w (PR (fun q w' => w q = none ∧ (gH G).size ≤ q ∧ w' = up w q (eQ G nl (lf n el)))) := by
  refine ct_intro RJ7 "copyOf" (by decide +kernel) rfl rfl rfl (Nat.le_of_ble_eq_true rfl) [some (.ref a0), some (.int (nI nl))] rfl (fun C => ?_)
  refine g_aload0 dJ7_copyOf_1904c_0 ?_
  refine g_iload1 dJ7_copyOf_1904c_1 ?_
  refine g_aload0 dJ7_copyOf_1904c_2 ?_
  refine g_getC dJ7_copyOf_1904c_3 ml_J7_86 hw0 (Nat.le_of_ble_eq_true rfl) (Nat.le_of_ble_eq_true rfl) ?_
  refine g_callS3 (ct_copy3 hk hca hw0 hel hn hnl) md_J7_copyOf_6403c dJ7_copyOf_1904c_6 ml_J7_300 st_J7_copyOf_6403c (RmOk.of (Nat.le_of_ble_eq_true rfl) (Nat.le_of_ble_eq_true rfl) (Nat.le_of_ble_eq_true rfl) (Nat.le_of_ble_eq_true rfl) (by show 0 + nl ≤ nl; omega)) (kr_R (fun q w1 hw1 => ?_)) kx_R
  refine g_aret (Or.inr ⟨_, rfl⟩) dJ7_copyOf_1904c_9 ?_ (Nat.le_of_ble_eq_true rfl) (by show 0 + nl ≤ nl; omega)
  exact ⟨q, rfl, hw1⟩

