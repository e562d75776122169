/-! isTold: every answer beside the law's own numbers; in sections, from its end. -/

abbrev rm_L_isTold : Room := { frames := 11, cells := 3400, slots := 20400, locals := 198 }

theorem inb_ac : ∀ a : Nat, a < 7 → inb (nI a - 1) (-1) 99 = true := by decide +kernel
theorem inb_ki : ∀ a : Nat, a < 5 → inb (nI a - 1) (-1) 3 = true := by decide +kernel
theorem inb_ba : ∀ a : Nat, a < 7 → a ≠ 0 → inb (nI a - 1) 0 99 = true := by decide +kernel
theorem m1_lt : ∀ a : Nat, a < 7 → (nI a - 1 < 0 ↔ a = 0) := by decide +kernel
theorem m1_eq : ∀ a : Nat, a < 7 → (nI a - 1 = -1 ↔ a = 0) := by decide +kernel

set_option maxRecDepth 100000 in
theorem it_F {G : Gx} {C : Cx} {X : Nat → Prop} {am : Nat → Nat} {w : Wd} {kp : Nat} {FJ : Nat → Nat → Int64} {FI : Nat → Nat → Int32} {N : Nat → Nat} {A : Nat → Nat → Int32} {y z : Int32} (hI : Inv0 G X w kp N A w) (hM : LA G am w FJ FI w) (hJ : JJ N A FJ FI) {x10 x11 x12 x13 x14 x15 x16 x17 x18 x19 x20 x21 : Option Value} {c k : Nat} (hc : c ≤ 3220) (hk : k ≤ 19300)  : Go G rm_L_isTold cL_isTold RL ((some .boolean), "isTold", []) C (QP G rm_L_isTold (PV (.int 1) w) C) 922 [some (.ref kp), some (.int y), some (.int z), some (.ref (am 1)), some (.ref (am 2)), some (.ref (am 3)), some (.ref (am 5)), some (.ref (am 6)), some (.ref (am 7)), some (.ref (am 10)), x10, x11, x12, x13, x14, x15, x16, x17, x18, x19, x20, x21] [] w c k := by
  have hJ0 := hJ
  obtain ⟨⟨G0, G1, G2, G3, G4, G5⟩, hB, hO, hP, hF, hR, hD, hV, hS, hT⟩ := hJ0
  obtain ⟨b1, b2, b3, b4, b5, b6⟩ := id hB
  have hb := hI.g0
  obtain ⟨fs0, hb0⟩ := hI.g0
  refine g_aload0 dL_isTold_922 ?_
  refine g_callV0 kc6 (kn_documents hI) md_X5_documents dL_isTold_923 ml_L_96 im_X5_documents se_X5_documents hb0 (RmOk.of (Nat.le_of_ble_eq_true rfl) (Nat.le_of_ble_eq_true rfl) (Nat.le_of_ble_eq_true rfl) (by (try dsimp only [rm_L_isTold, rm_X5_documents]); omega) (by (try dsimp only [rm_L_isTold, rm_X5_documents]); omega)) (kr_V ?_) kx_V
  refine g_aload9 dL_isTold_926 ?_
  refine g_iconst (v := 5) dL_isTold_928 (by decide) ?_
  refine g_jiald (k := 10) (i := 5) hM (by decide) (by decide) dL_isTold_929 (show _ < 6 from by omega) ?_
  rw [G5]
  refine g_icmp_ne_f (tgt := 1047) dL_isTold_930 (by decide) rfl ?_
  refine g_aload0 dL_isTold_933 ?_
  refine g_aload9 dL_isTold_934 ?_
  refine g_iconst (v := 5) dL_isTold_936 (by decide) ?_
  refine g_jiald (k := 10) (i := 5) hM (by decide) (by decide) dL_isTold_937 (show _ < 6 from by omega) ?_
  rw [G5]
  refine g_callSW2 (lw_account_IOOB hb (kn_account_a hI (inb_out (by omega)))) md_L_account dL_isTold_938 ml_L_131 st_L_account (RmOk.of (Nat.le_of_ble_eq_true rfl) (Nat.le_of_ble_eq_true rfl) (Nat.le_of_ble_eq_true rfl) (by (try dsimp only [rm_L_isTold, rm_X5_documents, rm_L_account]); omega) (by (try dsimp only [rm_L_isTold, rm_X5_documents, rm_L_account]); omega)) (kr_V ?_) kx_V
  refine g_bipush (v := (-73)) dL_isTold_941 (by decide) ?_
  refine g_icmp_ne_f (tgt := 1047) dL_isTold_943 (by decide) (by decide) ?_
  refine g_aload0 dL_isTold_946 ?_
  refine g_iconst (v := (-1)) dL_isTold_947 (by decide) ?_
  refine g_callSW2 (lw_account_IOOB hb (kn_account_a hI inb_m1)) md_L_account dL_isTold_948 ml_L_131 st_L_account (RmOk.of (Nat.le_of_ble_eq_true rfl) (Nat.le_of_ble_eq_true rfl) (Nat.le_of_ble_eq_true rfl) (by (try dsimp only [rm_L_isTold, rm_X5_documents, rm_L_account]); omega) (by (try dsimp only [rm_L_isTold, rm_X5_documents, rm_L_account]); omega)) (kr_V ?_) kx_V
  refine g_bipush (v := (-73)) dL_isTold_951 (by decide) ?_
  refine g_icmp_ne_f (tgt := 1047) dL_isTold_953 (by decide) (by decide) ?_
  refine g_aload0 dL_isTold_956 ?_
  refine g_aload9 dL_isTold_957 ?_
  refine g_iconst (v := 4) dL_isTold_959 (by decide) ?_
  refine g_jiald (k := 10) (i := 4) hM (by decide) (by decide) dL_isTold_960 (show _ < 6 from by omega) ?_
  rw [G4]
  refine g_callSW2 (lw_pages_IOOB hb (kn_pages_a hI (inb_out (by omega)))) md_L_pages dL_isTold_961 ml_L_142 st_L_pages (RmOk.of (Nat.le_of_ble_eq_true rfl) (Nat.le_of_ble_eq_true rfl) (Nat.le_of_ble_eq_true rfl) (by (try dsimp only [rm_L_isTold, rm_X5_documents, rm_L_account, rm_L_pages]); omega) (by (try dsimp only [rm_L_isTold, rm_X5_documents, rm_L_account, rm_L_pages]); omega)) (kr_V ?_) kx_V
  refine g_bipush (v := (-73)) dL_isTold_964 (by decide) ?_
  refine g_icmp_ne_f (tgt := 1047) dL_isTold_966 (by decide) (by decide) ?_
  refine g_aload0 dL_isTold_969 ?_
  refine g_iconst (v := (-1)) dL_isTold_970 (by decide) ?_
  refine g_callSW2 (lw_twice_IOOB hb (kn_twice_a hI inb_m1)) md_L_twice dL_isTold_971 ml_L_144 st_L_twice (RmOk.of (Nat.le_of_ble_eq_true rfl) (Nat.le_of_ble_eq_true rfl) (Nat.le_of_ble_eq_true rfl) (by (try dsimp only [rm_L_isTold, rm_X5_documents, rm_L_account, rm_L_pages, rm_L_twice]); omega) (by (try dsimp only [rm_L_isTold, rm_X5_documents, rm_L_account, rm_L_pages, rm_L_twice]); omega)) (kr_V ?_) kx_V
  refine g_bipush (v := (-73)) dL_isTold_974 (by decide) ?_
  refine g_icmp_ne_f (tgt := 1047) dL_isTold_976 (by decide) (by decide) ?_
  refine g_aload0 dL_isTold_979 ?_
  refine g_aload9 dL_isTold_980 ?_
  refine g_iconst (v := 4) dL_isTold_982 (by decide) ?_
  refine g_jiald (k := 10) (i := 4) hM (by decide) (by decide) dL_isTold_983 (show _ < 6 from by omega) ?_
  rw [G4]
  refine g_iconst (v := 0) dL_isTold_984 (by decide) ?_
  refine g_callSW3 (lw_copies_IOOB hb (kn_copies_a hI (inb_out (by omega)))) md_L_copies dL_isTold_985 ml_L_146 st_L_copies (RmOk.of (Nat.le_of_ble_eq_true rfl) (Nat.le_of_ble_eq_true rfl) (Nat.le_of_ble_eq_true rfl) (by (try dsimp only [rm_L_isTold, rm_X5_documents, rm_L_account, rm_L_pages, rm_L_twice, rm_L_copies]); omega) (by (try dsimp only [rm_L_isTold, rm_X5_documents, rm_L_account, rm_L_pages, rm_L_twice, rm_L_copies]); omega)) (kr_V ?_) kx_V
  refine g_bipush (v := (-73)) dL_isTold_988 (by decide) ?_
  refine g_icmp_ne_f (tgt := 1047) dL_isTold_990 (by decide) (by decide) ?_
  refine g_aload0 dL_isTold_993 ?_
  refine g_iconst (v := 0) dL_isTold_994 (by decide) ?_
  refine g_aload9 dL_isTold_995 ?_
  refine g_iconst (v := 5) dL_isTold_997 (by decide) ?_
  refine g_jiald (k := 10) (i := 5) hM (by decide) (by decide) dL_isTold_998 (show _ < 6 from by omega) ?_
  rw [G5]
  refine g_iconst (v := 0) dL_isTold_999 (by decide) ?_
  refine g_iconst (v := 0) dL_isTold_1000 (by decide) ?_
  refine g_callSW5 (lw_read_IOOB hb (kn_read_b1 (j := 0) hI (by decide) (inb_out (by omega)))) md_L_read dL_isTold_1001 ml_L_157 st_L_read (RmOk.of (Nat.le_of_ble_eq_true rfl) (Nat.le_of_ble_eq_true rfl) (Nat.le_of_ble_eq_true rfl) (by (try dsimp only [rm_L_isTold, rm_X5_documents, rm_L_account, rm_L_pages, rm_L_twice, rm_L_copies, rm_L_read]); omega) (by (try dsimp only [rm_L_isTold, rm_X5_documents, rm_L_account, rm_L_pages, rm_L_twice, rm_L_copies, rm_L_read]); omega)) (kr_V ?_) kx_V
  refine g_bipush (v := (-73)) dL_isTold_1004 (by decide) ?_
  refine g_icmp_ne_f (tgt := 1047) dL_isTold_1006 (by decide) (by decide) ?_
  refine g_aload0 dL_isTold_1009 ?_
  refine g_iconst (v := 0) dL_isTold_1010 (by decide) ?_
  refine g_bipush (v := 100) dL_isTold_1011 (by decide) ?_
  refine g_callSW3 (lw_bundle_IAE hb (kn_bundle_a2 (j := 0) hI (by decide) (by decide))) md_L_bundle dL_isTold_1013 ml_L_155 st_L_bundle (RmOk.of (Nat.le_of_ble_eq_true rfl) (Nat.le_of_ble_eq_true rfl) (Nat.le_of_ble_eq_true rfl) (by (try dsimp only [rm_L_isTold, rm_X5_documents, rm_L_account, rm_L_pages, rm_L_twice, rm_L_copies, rm_L_read, rm_L_bundle]); omega) (by (try dsimp only [rm_L_isTold, rm_X5_documents, rm_L_account, rm_L_pages, rm_L_twice, rm_L_copies, rm_L_read, rm_L_bundle]); omega)) (kr_V ?_) kx_V
  refine g_bipush (v := (-71)) dL_isTold_1016 (by decide) ?_
  refine g_icmp_ne_f (tgt := 1047) dL_isTold_1018 (by decide) (by decide) ?_
  refine g_aload0 dL_isTold_1021 ?_
  refine g_iconst (v := 4) dL_isTold_1022 (by decide) ?_
  refine g_iconst (v := 0) dL_isTold_1023 (by decide) ?_
  refine g_callSW3 (lw_bundle_IAE hb (kn_bundle_a1 hI (by decide))) md_L_bundle dL_isTold_1024 ml_L_155 st_L_bundle (RmOk.of (Nat.le_of_ble_eq_true rfl) (Nat.le_of_ble_eq_true rfl) (Nat.le_of_ble_eq_true rfl) (by (try dsimp only [rm_L_isTold, rm_X5_documents, rm_L_account, rm_L_pages, rm_L_twice, rm_L_copies, rm_L_read, rm_L_bundle]); omega) (by (try dsimp only [rm_L_isTold, rm_X5_documents, rm_L_account, rm_L_pages, rm_L_twice, rm_L_copies, rm_L_read, rm_L_bundle]); omega)) (kr_V ?_) kx_V
  refine g_bipush (v := (-71)) dL_isTold_1027 (by decide) ?_
  refine g_icmp_ne_f (tgt := 1047) dL_isTold_1029 (by decide) (by decide) ?_
  refine g_aload0 dL_isTold_1032 ?_
  refine g_iconst (v := 0) dL_isTold_1033 (by decide) ?_
  refine g_iconst (v := (-1)) dL_isTold_1034 (by decide) ?_
  refine g_callSW3 (lw_bundle_IAE hb (kn_bundle_a2 (j := 0) hI (by decide) (by decide))) md_L_bundle dL_isTold_1035 ml_L_155 st_L_bundle (RmOk.of (Nat.le_of_ble_eq_true rfl) (Nat.le_of_ble_eq_true rfl) (Nat.le_of_ble_eq_true rfl) (by (try dsimp only [rm_L_isTold, rm_X5_documents, rm_L_account, rm_L_pages, rm_L_twice, rm_L_copies, rm_L_read, rm_L_bundle]); omega) (by (try dsimp only [rm_L_isTold, rm_X5_documents, rm_L_account, rm_L_pages, rm_L_twice, rm_L_copies, rm_L_read, rm_L_bundle]); omega)) (kr_V ?_) kx_V
  refine g_bipush (v := (-71)) dL_isTold_1038 (by decide) ?_
  refine g_icmp_ne_f (tgt := 1047) dL_isTold_1040 (by decide) (by decide) ?_
  refine g_iconst (v := 1) dL_isTold_1043 (by decide) ?_
  refine g_goto (tgt := 1048) dL_isTold_1044 (by decide) ?_
  refine g_zret dL_isTold_1048 (by decide) ?_ (by (try dsimp only [rm_L_isTold, rm_X5_documents, rm_L_account, rm_L_pages, rm_L_twice, rm_L_copies, rm_L_read, rm_L_bundle]); omega) (by (try dsimp only [rm_L_isTold, rm_X5_documents, rm_L_account, rm_L_pages, rm_L_twice, rm_L_copies, rm_L_read, rm_L_bundle]); omega)
  exact ⟨rfl, rfl⟩

set_option maxRecDepth 100000 in
theorem it_E1 {G : Gx} {C : Cx} {X : Nat → Prop} {am : Nat → Nat} {w : Wd} {kp : Nat} {FJ : Nat → Nat → Int64} {FI : Nat → Nat → Int32} {N : Nat → Nat} {A : Nat → Nat → Int32} {y z : Int32} (hI : Inv0 G X w kp N A w) (hM : LA G am w FJ FI w) (hJ : JJ N A FJ FI) {j d ln fp pg mm : Nat} {s : Bool} {x11 x12 x13 x14 x15 : Option Value} (hj : j < 4) (hd : d < N 17) (e19 : A 19 d = nI ln) (e18 : A 18 d = nI fp) (hfl : fp + ln ≤ N 6) (hpg : pg < ln) (h8 : A 8 (fp + pg) = nI mm) (hm8 : mm ≤ 8) (hv : vOk (A 9) (8 * (fp + pg)) mm) (hs : seeb A j d = s) : ∀ (M kk c k : Nat), mm - kk < M → kk ≤ mm → c ≤ 3080 + 10 * kk → k ≤ 18480 + 60 * kk →
    Go G rm_L_isTold cL_isTold RL (some .boolean, "isTold", []) C (QP G rm_L_isTold (PV (.int 1) w) C) 766 [some (.ref kp), some (.int y), some (.int z), some (.ref (am 1)), some (.ref (am 2)), some (.ref (am 3)), some (.ref (am 5)), some (.ref (am 6)), some (.ref (am 7)), some (.ref (am 10)), some (.int (nI j)), x11, x12, x13, x14, x15, some (.int (nI d)), some (.int (nI pg)), some (.long (pgv mm (A 9) (8 * (fp + pg)))), none, some (.int (bI s)), some (.int (nI kk))] [] w c k := by
  have hJ0 := hJ
  obtain ⟨⟨G0, G1, G2, G3, G4, G5⟩, hB, hO, hP, hF, hR, hD, hV, hS, hT⟩ := hJ0
  obtain ⟨b1, b2, b3, b4, b5, b6⟩ := id hB
  have hb := hI.g0
  obtain ⟨fs0, hb0⟩ := hI.g0
  obtain ⟨f, l, b, c1, c2, c3, c4, c5, c6, c7⟩ := hV j hj
  intro M
  induction M with
  | zero => intro kk c k hM9; exact absurd hM9 (Nat.not_lt_zero _)
  | succ M ih =>
    intro kk c k hi9 hkk hc hk
    cases s with
    | true =>
      refine g_iload21 dL_isTold_766 ?_
      refine g_lload18 dL_isTold_768 ?_
      refine g_callS1 (ct_lines hm8 hv) md_L_lines dL_isTold_770 ml_L_73 st_L_lines (RmOk.of (Nat.le_of_ble_eq_true rfl) (Nat.le_of_ble_eq_true rfl) (Nat.le_of_ble_eq_true rfl) (by (try dsimp only [rm_L_isTold, rm_L_lines]); omega) (by (try dsimp only [rm_L_isTold, rm_L_lines]); omega)) (kr_V ?_) kx_V
      refine g_icmp_ge (tgt := 835) dL_isTold_773 (by decide) (fun h773 => ?_) (fun h773 => ?_)
      · skip
        have hin : kk = mm := by have := idx_ge (by omega) (by omega) h773; omega
        refine g_aload0 dL_isTold_835 ?_
        refine g_iload10 dL_isTold_836 ?_
        refine g_iload16 dL_isTold_838 ?_
        refine g_iload17 dL_isTold_840 ?_
        refine g_lload18 dL_isTold_842 ?_
        refine g_callS1 (ct_lines hm8 hv) md_L_lines dL_isTold_844 ml_L_73 st_L_lines (RmOk.of (Nat.le_of_ble_eq_true rfl) (Nat.le_of_ble_eq_true rfl) (Nat.le_of_ble_eq_true rfl) (by (try dsimp only [rm_L_isTold, rm_L_lines]); omega) (by (try dsimp only [rm_L_isTold, rm_L_lines]); omega)) (kr_V ?_) kx_V
        refine g_callSW5 (lw_read_IOOB hb (kn_read_b3 hI hj hd e19 (by omega) e18 (by omega) hpg h8 hm8 (inb_out (by omega)))) md_L_read dL_isTold_847 ml_L_157 st_L_read (RmOk.of (Nat.le_of_ble_eq_true rfl) (Nat.le_of_ble_eq_true rfl) (Nat.le_of_ble_eq_true rfl) (by (try dsimp only [rm_L_isTold, rm_L_lines, rm_L_read]); omega) (by (try dsimp only [rm_L_isTold, rm_L_lines, rm_L_read]); omega)) (kr_V ?_) kx_V
        refine g_bipush (v := (-73)) dL_isTold_850 (by decide) ?_
        refine g_icmp_ne_f (tgt := 920) dL_isTold_852 (by decide) (by decide) ?_
        refine g_aload0 dL_isTold_855 ?_
        refine g_iload10 dL_isTold_856 ?_
        refine g_iload16 dL_isTold_858 ?_
        refine g_aload7 dL_isTold_860 ?_
        refine g_iload16 dL_isTold_862 ?_
        refine g_callS2 (ct_length hM hB hd (hD d hd)) md_L_length dL_isTold_864 ml_L_139 st_L_length (RmOk.of (Nat.le_of_ble_eq_true rfl) (Nat.le_of_ble_eq_true rfl) (Nat.le_of_ble_eq_true rfl) (by (try dsimp only [rm_L_isTold, rm_L_lines, rm_L_read, rm_L_length]); omega) (by (try dsimp only [rm_L_isTold, rm_L_lines, rm_L_read, rm_L_length]); omega)) (kr_V ?_) kx_V
        rw [e19]
        refine g_iconst (v := 0) dL_isTold_867 (by decide) ?_
        refine g_callSW5 (lw_read_IOOB hb (kn_read_b2 hI hj hd e19 (by omega) (inb_out (by omega)))) md_L_read dL_isTold_868 ml_L_157 st_L_read (RmOk.of (Nat.le_of_ble_eq_true rfl) (Nat.le_of_ble_eq_true rfl) (Nat.le_of_ble_eq_true rfl) (by (try dsimp only [rm_L_isTold, rm_L_lines, rm_L_read, rm_L_length]); omega) (by (try dsimp only [rm_L_isTold, rm_L_lines, rm_L_read, rm_L_length]); omega)) (kr_V ?_) kx_V
        refine g_bipush (v := (-73)) dL_isTold_871 (by decide) ?_
        refine g_icmp_ne_f (tgt := 920) dL_isTold_873 (by decide) (by decide) ?_
        refine g_aload0 dL_isTold_876 ?_
        refine g_iload10 dL_isTold_877 ?_
        refine g_iload16 dL_isTold_879 ?_
        refine g_iconst (v := (-1)) dL_isTold_881 (by decide) ?_
        refine g_iconst (v := 0) dL_isTold_882 (by decide) ?_
        refine g_callSW5 (lw_read_IOOB hb (kn_read_b2 hI hj hd e19 (by omega) inb_m1)) md_L_read dL_isTold_883 ml_L_157 st_L_read (RmOk.of (Nat.le_of_ble_eq_true rfl) (Nat.le_of_ble_eq_true rfl) (Nat.le_of_ble_eq_true rfl) (by (try dsimp only [rm_L_isTold, rm_L_lines, rm_L_read, rm_L_length]); omega) (by (try dsimp only [rm_L_isTold, rm_L_lines, rm_L_read, rm_L_length]); omega)) (kr_V ?_) kx_V
        refine g_bipush (v := (-73)) dL_isTold_886 (by decide) ?_
        refine g_icmp_ne_f (tgt := 920) dL_isTold_888 (by decide) (by decide) ?_
        refine g_aload0 dL_isTold_891 ?_
        refine g_iconst (v := 4) dL_isTold_892 (by decide) ?_
        refine g_iconst (v := (-1)) dL_isTold_893 (by decide) ?_
        refine g_iconst (v := 0) dL_isTold_894 (by decide) ?_
        refine g_iconst (v := 0) dL_isTold_895 (by decide) ?_
        refine g_callSW5 (lw_read_IAE hb (kn_read_a hI (by decide))) md_L_read dL_isTold_896 ml_L_157 st_L_read (RmOk.of (Nat.le_of_ble_eq_true rfl) (Nat.le_of_ble_eq_true rfl) (Nat.le_of_ble_eq_true rfl) (by (try dsimp only [rm_L_isTold, rm_L_lines, rm_L_read, rm_L_length]); omega) (by (try dsimp only [rm_L_isTold, rm_L_lines, rm_L_read, rm_L_length]); omega)) (kr_V ?_) kx_V
        refine g_bipush (v := (-71)) dL_isTold_899 (by decide) ?_
        refine g_icmp_ne_f (tgt := 920) dL_isTold_901 (by decide) (by decide) ?_
        refine g_aload0 dL_isTold_904 ?_
        refine g_iload10 dL_isTold_905 ?_
        refine g_iload16 dL_isTold_907 ?_
        refine g_iload17 dL_isTold_909 ?_
        refine g_iconst (v := (-1)) dL_isTold_911 (by decide) ?_
        refine g_callSW5 (lw_read_IOOB hb (kn_read_b3 hI hj hd e19 (by omega) e18 (by omega) hpg h8 hm8 inb_m1)) md_L_read dL_isTold_912 ml_L_157 st_L_read (RmOk.of (Nat.le_of_ble_eq_true rfl) (Nat.le_of_ble_eq_true rfl) (Nat.le_of_ble_eq_true rfl) (by (try dsimp only [rm_L_isTold, rm_L_lines, rm_L_read, rm_L_length]); omega) (by (try dsimp only [rm_L_isTold, rm_L_lines, rm_L_read, rm_L_length]); omega)) (kr_V ?_) kx_V
        refine g_bipush (v := (-73)) dL_isTold_915 (by decide) ?_
        refine g_icmp_eq_t (tgt := 922) dL_isTold_917 (by decide) (by decide) ?_
        exact it_F hI hM hJ (by (try dsimp only [rm_L_account, rm_L_pages, rm_L_twice, rm_L_copies, rm_L_found, rm_L_read, rm_L_bundle, rm_L_sees, rm_L_low, rm_L_lines, rm_L_at, rm_L_isThere, rm_L_length, rm_X5_isThere, rm_X5_kind, rm_X5_length, rm_X5_documents]); omega) (by (try dsimp only [rm_L_account, rm_L_pages, rm_L_twice, rm_L_copies, rm_L_found, rm_L_read, rm_L_bundle, rm_L_sees, rm_L_low, rm_L_lines, rm_L_at, rm_L_isThere, rm_L_length, rm_X5_isThere, rm_X5_kind, rm_X5_length, rm_X5_documents]); omega)
      · skip
        have hlt : kk < mm := by have := idx_lt (by omega) (by omega) h773; omega
        refine g_aload0 dL_isTold_776 ?_
        refine g_iload10 dL_isTold_777 ?_
        refine g_iload16 dL_isTold_779 ?_
        refine g_iload17 dL_isTold_781 ?_
        refine g_iload21 dL_isTold_783 ?_
        refine g_callSW5 (lw_read_v hb (kn_read_d hI hj hd e19 (by omega) e18 (by omega) hpg h8 hm8 hlt hs)) md_L_read dL_isTold_785 ml_L_157 st_L_read (RmOk.of (Nat.le_of_ble_eq_true rfl) (Nat.le_of_ble_eq_true rfl) (Nat.le_of_ble_eq_true rfl) (by (try dsimp only [rm_L_isTold, rm_L_lines, rm_L_read, rm_L_length]); omega) (by (try dsimp only [rm_L_isTold, rm_L_lines, rm_L_read, rm_L_length]); omega)) (kr_V ?_) kx_V
        refine g_iload20 dL_isTold_788 ?_
        refine g_if_ne_t (tgt := 798) dL_isTold_790 (by decide) (by decide) ?_
        refine g_aload8 dL_isTold_798 ?_
        refine g_iload10 dL_isTold_800 ?_
        refine g_jiald (k := 7) hM (by decide) (by decide) dL_isTold_802 (show _ < 4 from by omega) ?_
        rw [c7]
        refine g_bipush (v := 14) dL_isTold_803 (by decide) ?_
        refine g_ishr dL_isTold_805 ?_
        rw [(pd_v c1 c2 c3).2.2]
        refine g_iconst (v := 1) dL_isTold_806 (by decide) ?_
        refine g_isub dL_isTold_807 ?_
        refine g_iload21 dL_isTold_808 ?_
        refine g_icmp_ne (tgt := 817) dL_isTold_810 (by decide) (fun h810 => ?_) (fun h810 => ?_)
        · skip
          refine g_lload18 dL_isTold_817 ?_
          refine g_iload21 dL_isTold_819 ?_
          refine g_callS2 (ct_at_t hm8 hv hlt) md_L_at dL_isTold_821 ml_L_85 st_L_at (RmOk.of (Nat.le_of_ble_eq_true rfl) (Nat.le_of_ble_eq_true rfl) (Nat.le_of_ble_eq_true rfl) (by (try dsimp only [rm_L_isTold, rm_L_lines, rm_L_read, rm_L_length, rm_L_at]); omega) (by (try dsimp only [rm_L_isTold, rm_L_lines, rm_L_read, rm_L_length, rm_L_at]); omega)) (kr_V ?_) kx_V
          refine g_icmp_eq_t (tgt := 829) dL_isTold_824 (by decide) (by rw [if_neg (fun q => h810 (c6.symm.trans q))]) ?_
          refine g_iinc21 (v' := (nI (kk + 1))) dL_isTold_829 (nI_1 kk) ?_
          refine g_goto (tgt := 766) dL_isTold_832 (by decide) ?_
          exact ih (kk + 1) _ _ (by omega) (by omega) (by (try dsimp only [rm_L_account, rm_L_pages, rm_L_twice, rm_L_copies, rm_L_found, rm_L_read, rm_L_bundle, rm_L_sees, rm_L_low, rm_L_lines, rm_L_at, rm_L_isThere, rm_L_length, rm_X5_isThere, rm_X5_kind, rm_X5_length, rm_X5_documents]); omega) (by (try dsimp only [rm_L_account, rm_L_pages, rm_L_twice, rm_L_copies, rm_L_found, rm_L_read, rm_L_bundle, rm_L_sees, rm_L_low, rm_L_lines, rm_L_at, rm_L_isThere, rm_L_length, rm_X5_isThere, rm_X5_kind, rm_X5_length, rm_X5_documents]); omega)
        · skip
          refine g_iconst (v := (-1)) dL_isTold_813 (by decide) ?_
          refine g_goto (tgt := 824) dL_isTold_814 (by decide) ?_
          refine g_icmp_eq_t (tgt := 829) dL_isTold_824 (by decide) (by rw [if_pos (c6.trans h810)]) ?_
          refine g_iinc21 (v' := (nI (kk + 1))) dL_isTold_829 (nI_1 kk) ?_
          refine g_goto (tgt := 766) dL_isTold_832 (by decide) ?_
          exact ih (kk + 1) _ _ (by omega) (by omega) (by (try dsimp only [rm_L_account, rm_L_pages, rm_L_twice, rm_L_copies, rm_L_found, rm_L_read, rm_L_bundle, rm_L_sees, rm_L_low, rm_L_lines, rm_L_at, rm_L_isThere, rm_L_length, rm_X5_isThere, rm_X5_kind, rm_X5_length, rm_X5_documents]); omega) (by (try dsimp only [rm_L_account, rm_L_pages, rm_L_twice, rm_L_copies, rm_L_found, rm_L_read, rm_L_bundle, rm_L_sees, rm_L_low, rm_L_lines, rm_L_at, rm_L_isThere, rm_L_length, rm_X5_isThere, rm_X5_kind, rm_X5_length, rm_X5_documents]); omega)
    | false =>
      refine g_iload21 dL_isTold_766 ?_
      refine g_lload18 dL_isTold_768 ?_
      refine g_callS1 (ct_lines hm8 hv) md_L_lines dL_isTold_770 ml_L_73 st_L_lines (RmOk.of (Nat.le_of_ble_eq_true rfl) (Nat.le_of_ble_eq_true rfl) (Nat.le_of_ble_eq_true rfl) (by (try dsimp only [rm_L_isTold, rm_L_lines]); omega) (by (try dsimp only [rm_L_isTold, rm_L_lines]); omega)) (kr_V ?_) kx_V
      refine g_icmp_ge (tgt := 835) dL_isTold_773 (by decide) (fun h773 => ?_) (fun h773 => ?_)
      · skip
        have hin : kk = mm := by have := idx_ge (by omega) (by omega) h773; omega
        refine g_aload0 dL_isTold_835 ?_
        refine g_iload10 dL_isTold_836 ?_
        refine g_iload16 dL_isTold_838 ?_
        refine g_iload17 dL_isTold_840 ?_
        refine g_lload18 dL_isTold_842 ?_
        refine g_callS1 (ct_lines hm8 hv) md_L_lines dL_isTold_844 ml_L_73 st_L_lines (RmOk.of (Nat.le_of_ble_eq_true rfl) (Nat.le_of_ble_eq_true rfl) (Nat.le_of_ble_eq_true rfl) (by (try dsimp only [rm_L_isTold, rm_L_lines]); omega) (by (try dsimp only [rm_L_isTold, rm_L_lines]); omega)) (kr_V ?_) kx_V
        refine g_callSW5 (lw_read_IOOB hb (kn_read_b3 hI hj hd e19 (by omega) e18 (by omega) hpg h8 hm8 (inb_out (by omega)))) md_L_read dL_isTold_847 ml_L_157 st_L_read (RmOk.of (Nat.le_of_ble_eq_true rfl) (Nat.le_of_ble_eq_true rfl) (Nat.le_of_ble_eq_true rfl) (by (try dsimp only [rm_L_isTold, rm_L_lines, rm_L_read]); omega) (by (try dsimp only [rm_L_isTold, rm_L_lines, rm_L_read]); omega)) (kr_V ?_) kx_V
        refine g_bipush (v := (-73)) dL_isTold_850 (by decide) ?_
        refine g_icmp_ne_f (tgt := 920) dL_isTold_852 (by decide) (by decide) ?_
        refine g_aload0 dL_isTold_855 ?_
        refine g_iload10 dL_isTold_856 ?_
        refine g_iload16 dL_isTold_858 ?_
        refine g_aload7 dL_isTold_860 ?_
        refine g_iload16 dL_isTold_862 ?_
        refine g_callS2 (ct_length hM hB hd (hD d hd)) md_L_length dL_isTold_864 ml_L_139 st_L_length (RmOk.of (Nat.le_of_ble_eq_true rfl) (Nat.le_of_ble_eq_true rfl) (Nat.le_of_ble_eq_true rfl) (by (try dsimp only [rm_L_isTold, rm_L_lines, rm_L_read, rm_L_length]); omega) (by (try dsimp only [rm_L_isTold, rm_L_lines, rm_L_read, rm_L_length]); omega)) (kr_V ?_) kx_V
        rw [e19]
        refine g_iconst (v := 0) dL_isTold_867 (by decide) ?_
        refine g_callSW5 (lw_read_IOOB hb (kn_read_b2 hI hj hd e19 (by omega) (inb_out (by omega)))) md_L_read dL_isTold_868 ml_L_157 st_L_read (RmOk.of (Nat.le_of_ble_eq_true rfl) (Nat.le_of_ble_eq_true rfl) (Nat.le_of_ble_eq_true rfl) (by (try dsimp only [rm_L_isTold, rm_L_lines, rm_L_read, rm_L_length]); omega) (by (try dsimp only [rm_L_isTold, rm_L_lines, rm_L_read, rm_L_length]); omega)) (kr_V ?_) kx_V
        refine g_bipush (v := (-73)) dL_isTold_871 (by decide) ?_
        refine g_icmp_ne_f (tgt := 920) dL_isTold_873 (by decide) (by decide) ?_
        refine g_aload0 dL_isTold_876 ?_
        refine g_iload10 dL_isTold_877 ?_
        refine g_iload16 dL_isTold_879 ?_
        refine g_iconst (v := (-1)) dL_isTold_881 (by decide) ?_
        refine g_iconst (v := 0) dL_isTold_882 (by decide) ?_
        refine g_callSW5 (lw_read_IOOB hb (kn_read_b2 hI hj hd e19 (by omega) inb_m1)) md_L_read dL_isTold_883 ml_L_157 st_L_read (RmOk.of (Nat.le_of_ble_eq_true rfl) (Nat.le_of_ble_eq_true rfl) (Nat.le_of_ble_eq_true rfl) (by (try dsimp only [rm_L_isTold, rm_L_lines, rm_L_read, rm_L_length]); omega) (by (try dsimp only [rm_L_isTold, rm_L_lines, rm_L_read, rm_L_length]); omega)) (kr_V ?_) kx_V
        refine g_bipush (v := (-73)) dL_isTold_886 (by decide) ?_
        refine g_icmp_ne_f (tgt := 920) dL_isTold_888 (by decide) (by decide) ?_
        refine g_aload0 dL_isTold_891 ?_
        refine g_iconst (v := 4) dL_isTold_892 (by decide) ?_
        refine g_iconst (v := (-1)) dL_isTold_893 (by decide) ?_
        refine g_iconst (v := 0) dL_isTold_894 (by decide) ?_
        refine g_iconst (v := 0) dL_isTold_895 (by decide) ?_
        refine g_callSW5 (lw_read_IAE hb (kn_read_a hI (by decide))) md_L_read dL_isTold_896 ml_L_157 st_L_read (RmOk.of (Nat.le_of_ble_eq_true rfl) (Nat.le_of_ble_eq_true rfl) (Nat.le_of_ble_eq_true rfl) (by (try dsimp only [rm_L_isTold, rm_L_lines, rm_L_read, rm_L_length]); omega) (by (try dsimp only [rm_L_isTold, rm_L_lines, rm_L_read, rm_L_length]); omega)) (kr_V ?_) kx_V
        refine g_bipush (v := (-71)) dL_isTold_899 (by decide) ?_
        refine g_icmp_ne_f (tgt := 920) dL_isTold_901 (by decide) (by decide) ?_
        refine g_aload0 dL_isTold_904 ?_
        refine g_iload10 dL_isTold_905 ?_
        refine g_iload16 dL_isTold_907 ?_
        refine g_iload17 dL_isTold_909 ?_
        refine g_iconst (v := (-1)) dL_isTold_911 (by decide) ?_
        refine g_callSW5 (lw_read_IOOB hb (kn_read_b3 hI hj hd e19 (by omega) e18 (by omega) hpg h8 hm8 inb_m1)) md_L_read dL_isTold_912 ml_L_157 st_L_read (RmOk.of (Nat.le_of_ble_eq_true rfl) (Nat.le_of_ble_eq_true rfl) (Nat.le_of_ble_eq_true rfl) (by (try dsimp only [rm_L_isTold, rm_L_lines, rm_L_read, rm_L_length]); omega) (by (try dsimp only [rm_L_isTold, rm_L_lines, rm_L_read, rm_L_length]); omega)) (kr_V ?_) kx_V
        refine g_bipush (v := (-73)) dL_isTold_915 (by decide) ?_
        refine g_icmp_eq_t (tgt := 922) dL_isTold_917 (by decide) (by decide) ?_
        exact it_F hI hM hJ (by (try dsimp only [rm_L_account, rm_L_pages, rm_L_twice, rm_L_copies, rm_L_found, rm_L_read, rm_L_bundle, rm_L_sees, rm_L_low, rm_L_lines, rm_L_at, rm_L_isThere, rm_L_length, rm_X5_isThere, rm_X5_kind, rm_X5_length, rm_X5_documents]); omega) (by (try dsimp only [rm_L_account, rm_L_pages, rm_L_twice, rm_L_copies, rm_L_found, rm_L_read, rm_L_bundle, rm_L_sees, rm_L_low, rm_L_lines, rm_L_at, rm_L_isThere, rm_L_length, rm_X5_isThere, rm_X5_kind, rm_X5_length, rm_X5_documents]); omega)
      · skip
        have hlt : kk < mm := by have := idx_lt (by omega) (by omega) h773; omega
        refine g_aload0 dL_isTold_776 ?_
        refine g_iload10 dL_isTold_777 ?_
        refine g_iload16 dL_isTold_779 ?_
        refine g_iload17 dL_isTold_781 ?_
        refine g_iload21 dL_isTold_783 ?_
        refine g_callSW5 (lw_read_NSE hb (kn_read_c hI hj hd e19 (by omega) e18 (by omega) hpg h8 hm8 hlt hs)) md_L_read dL_isTold_785 ml_L_157 st_L_read (RmOk.of (Nat.le_of_ble_eq_true rfl) (Nat.le_of_ble_eq_true rfl) (Nat.le_of_ble_eq_true rfl) (by (try dsimp only [rm_L_isTold, rm_L_lines, rm_L_read, rm_L_length]); omega) (by (try dsimp only [rm_L_isTold, rm_L_lines, rm_L_read, rm_L_length]); omega)) (kr_V ?_) kx_V
        refine g_iload20 dL_isTold_788 ?_
        refine g_if_ne_f (tgt := 798) dL_isTold_790 (by decide) rfl ?_
        refine g_bipush (v := (-74)) dL_isTold_793 (by decide) ?_
        refine g_goto (tgt := 824) dL_isTold_795 (by decide) ?_
        refine g_icmp_eq_t (tgt := 829) dL_isTold_824 (by decide) (by decide) ?_
        refine g_iinc21 (v' := (nI (kk + 1))) dL_isTold_829 (nI_1 kk) ?_
        refine g_goto (tgt := 766) dL_isTold_832 (by decide) ?_
        exact ih (kk + 1) _ _ (by omega) (by omega) (by (try dsimp only [rm_L_account, rm_L_pages, rm_L_twice, rm_L_copies, rm_L_found, rm_L_read, rm_L_bundle, rm_L_sees, rm_L_low, rm_L_lines, rm_L_at, rm_L_isThere, rm_L_length, rm_X5_isThere, rm_X5_kind, rm_X5_length, rm_X5_documents]); omega) (by (try dsimp only [rm_L_account, rm_L_pages, rm_L_twice, rm_L_copies, rm_L_found, rm_L_read, rm_L_bundle, rm_L_sees, rm_L_low, rm_L_lines, rm_L_at, rm_L_isThere, rm_L_length, rm_X5_isThere, rm_X5_kind, rm_X5_length, rm_X5_documents]); omega)

set_option maxRecDepth 100000 in
theorem it_E {G : Gx} {C : Cx} {X : Nat → Prop} {am : Nat → Nat} {w : Wd} {kp : Nat} {FJ : Nat → Nat → Int64} {FI : Nat → Nat → Int32} {N : Nat → Nat} {A : Nat → Nat → Int32} {y z : Int32} (hI : Inv0 G X w kp N A w) (hM : LA G am w FJ FI w) (hJ : JJ N A FJ FI) {x11 x12 x13 x14 x15 x16 x17 x18 x19 x20 x21 : Option Value} {j c k : Nat} (hj : j < 4) (hc : c ≤ 3080) (hk : k ≤ 18480)  : Go G rm_L_isTold cL_isTold RL ((some .boolean), "isTold", []) C (QP G rm_L_isTold (PV (.int 1) w) C) 695 [some (.ref kp), some (.int y), some (.int z), some (.ref (am 1)), some (.ref (am 2)), some (.ref (am 3)), some (.ref (am 5)), some (.ref (am 6)), some (.ref (am 7)), some (.ref (am 10)), some (.int (nI j)), x11, x12, x13, x14, x15, x16, x17, x18, x19, x20, x21] [] w c k := by
  have hJ0 := hJ
  obtain ⟨⟨G0, G1, G2, G3, G4, G5⟩, hB, hO, hP, hF, hR, hD, hV, hS, hT⟩ := hJ0
  obtain ⟨b1, b2, b3, b4, b5, b6⟩ := id hB
  have hb := hI.g0
  obtain ⟨fs0, hb0⟩ := hI.g0
  refine g_aload9 dL_isTold_695 ?_
  refine g_iconst (v := 5) dL_isTold_697 (by decide) ?_
  refine g_jiald (k := 10) (i := 5) hM (by decide) (by decide) dL_isTold_698 (show _ < 6 from by omega) ?_
  rw [G5]
  refine g_if_le (tgt := 922) dL_isTold_699 (by decide) (fun h699 => ?_) (fun h699 => ?_)
  · skip
    exact it_F hI hM hJ (by (try dsimp only [rm_L_account, rm_L_pages, rm_L_twice, rm_L_copies, rm_L_found, rm_L_read, rm_L_bundle, rm_L_sees, rm_L_low, rm_L_lines, rm_L_at, rm_L_isThere, rm_L_length, rm_X5_isThere, rm_X5_kind, rm_X5_length, rm_X5_documents]); omega) (by (try dsimp only [rm_L_account, rm_L_pages, rm_L_twice, rm_L_copies, rm_L_found, rm_L_read, rm_L_bundle, rm_L_sees, rm_L_low, rm_L_lines, rm_L_at, rm_L_isThere, rm_L_length, rm_X5_isThere, rm_X5_kind, rm_X5_length, rm_X5_documents]); omega)
  · skip
    have h17 : 0 < N 17 := by
      rcases Nat.eq_zero_or_pos (N 17) with q | q
      · exact absurd (show nI (N 17) ≤ 0 by rw [q]; decide) h699
      · exact q
    have hd := lowN_lt (z >>> ((4 : Int32) &&& 31)) (m := N 17) h17
    generalize hdd : lowN (z >>> ((4 : Int32) &&& 31)) (N 17) = d at hd
    obtain ⟨ac, ki, fp, ru, ln, a1, a2, a3, a4, a5, a6, a7, a8, a9, a10, a11, a12⟩ := hD d hd
    have hpg := lowN_lt (z >>> ((9 : Int32) &&& 31)) (m := ln) a4
    obtain ⟨-, mm, p1, p2, p3, p4⟩ := hP (fp + lowN (z >>> ((9 : Int32) &&& 31)) ln) (by omega)
    refine g_iload2 dL_isTold_702 ?_
    refine g_iconst (v := 4) dL_isTold_703 (by decide) ?_
    refine g_ishr dL_isTold_704 ?_
    refine g_aload9 dL_isTold_705 ?_
    refine g_iconst (v := 5) dL_isTold_707 (by decide) ?_
    refine g_jiald (k := 10) (i := 5) hM (by decide) (by decide) dL_isTold_708 (show _ < 6 from by omega) ?_
    rw [G5]
    refine g_callS2 (ct_low (m := N 17) h17 (by omega)) md_L_low dL_isTold_709 ml_L_90 st_L_low (RmOk.of (Nat.le_of_ble_eq_true rfl) (Nat.le_of_ble_eq_true rfl) (Nat.le_of_ble_eq_true rfl) (by (try dsimp only [rm_L_isTold, rm_L_low]); omega) (by (try dsimp only [rm_L_isTold, rm_L_low]); omega)) (kr_V ?_) kx_V
    rw [hdd]
    refine g_istore16 dL_isTold_712 ?_
    refine g_iload2 dL_isTold_714 ?_
    refine g_bipush (v := 9) dL_isTold_715 (by decide) ?_
    refine g_ishr dL_isTold_717 ?_
    refine g_aload7 dL_isTold_718 ?_
    refine g_iload16 dL_isTold_720 ?_
    refine g_callS2 (ct_length hM hB hd (hD d hd)) md_L_length dL_isTold_722 ml_L_139 st_L_length (RmOk.of (Nat.le_of_ble_eq_true rfl) (Nat.le_of_ble_eq_true rfl) (Nat.le_of_ble_eq_true rfl) (by (try dsimp only [rm_L_isTold, rm_L_low, rm_L_length]); omega) (by (try dsimp only [rm_L_isTold, rm_L_low, rm_L_length]); omega)) (kr_V ?_) kx_V
    rw [a9]
    refine g_callS2 (ct_low (m := ln) a4 (by omega)) md_L_low dL_isTold_725 ml_L_90 st_L_low (RmOk.of (Nat.le_of_ble_eq_true rfl) (Nat.le_of_ble_eq_true rfl) (Nat.le_of_ble_eq_true rfl) (by (try dsimp only [rm_L_isTold, rm_L_low, rm_L_length]); omega) (by (try dsimp only [rm_L_isTold, rm_L_low, rm_L_length]); omega)) (kr_V ?_) kx_V
    refine g_istore17 dL_isTold_728 ?_
    refine g_aload3 dL_isTold_730 ?_
    refine g_aload6 dL_isTold_731 ?_
    refine g_iload16 dL_isTold_733 ?_
    refine g_jiald (k := 5) hM (by decide) (by decide) dL_isTold_735 (show _ < 60 from by omega) ?_
    rw [a11]
    refine g_bipush (v := 9) dL_isTold_736 (by decide) ?_
    refine g_ishr dL_isTold_738 ?_
    refine g_bipush (v := 63) dL_isTold_739 (by decide) ?_
    refine g_iand dL_isTold_741 ?_
    rw [(pd_d a1 a2 (show fp < 64 by omega) (show ru < 15 by omega)).2.2.1]
    refine g_iload17 dL_isTold_742 ?_
    refine g_iadd dL_isTold_744 ?_
    rw [nI_add]
    refine g_jlald (k := 1) hM (by decide) dL_isTold_745 (show _ < 60 from by omega) ?_
    rw [p4]
    refine g_lstore18 dL_isTold_746 ?_
    refine g_aload6 dL_isTold_748 ?_
    refine g_aload7 dL_isTold_750 ?_
    refine g_aload8 dL_isTold_752 ?_
    refine g_iload10 dL_isTold_754 ?_
    refine g_iload16 dL_isTold_756 ?_
    refine g_callS5 (ct_sees hM hB hd (hD d hd) hj hV) md_L_sees dL_isTold_758 ml_L_148 st_L_sees (RmOk.of (Nat.le_of_ble_eq_true rfl) (Nat.le_of_ble_eq_true rfl) (Nat.le_of_ble_eq_true rfl) (by (try dsimp only [rm_L_isTold, rm_L_low, rm_L_length, rm_L_sees]); omega) (by (try dsimp only [rm_L_isTold, rm_L_low, rm_L_length, rm_L_sees]); omega)) (kr_V ?_) kx_V
    refine g_istore20 dL_isTold_761 ?_
    refine g_iconst (v := 0) dL_isTold_763 (by decide) ?_
    refine g_istore21 dL_isTold_764 ?_
    exact it_E1 hI hM hJ hj hd a9 a8 a3 hpg p2 p1 p3 rfl (mm + 1) 0 _ _ (by omega) (Nat.zero_le _) (by (try dsimp only [rm_L_account, rm_L_pages, rm_L_twice, rm_L_copies, rm_L_found, rm_L_read, rm_L_bundle, rm_L_sees, rm_L_low, rm_L_lines, rm_L_at, rm_L_isThere, rm_L_length, rm_X5_isThere, rm_X5_kind, rm_X5_length, rm_X5_documents]); omega) (by (try dsimp only [rm_L_account, rm_L_pages, rm_L_twice, rm_L_copies, rm_L_found, rm_L_read, rm_L_bundle, rm_L_sees, rm_L_low, rm_L_lines, rm_L_at, rm_L_isThere, rm_L_length, rm_X5_isThere, rm_X5_kind, rm_X5_length, rm_X5_documents]); omega)

set_option maxRecDepth 100000 in
theorem it_D {G : Gx} {C : Cx} {X : Nat → Prop} {am : Nat → Nat} {w : Wd} {kp : Nat} {FJ : Nat → Nat → Int64} {FI : Nat → Nat → Int32} {N : Nat → Nat} {A : Nat → Nat → Int32} {y z : Int32} (hI : Inv0 G X w kp N A w) (hM : LA G am w FJ FI w) (hJ : JJ N A FJ FI) {j ac ki dy : Nat} (hj : j < 4) (hac : ac < 7) (hki : ki < 5) (hdy : dy ≤ 9999) {x16 x17 x18 x19 x20 x21 : Option Value} {c k : Nat} (hc : c ≤ 3000) (hk : k ≤ 18000)  : Go G rm_L_isTold cL_isTold RL ((some .boolean), "isTold", []) C (QP G rm_L_isTold (PV (.int 1) w) C) 549 [some (.ref kp), some (.int y), some (.int z), some (.ref (am 1)), some (.ref (am 2)), some (.ref (am 3)), some (.ref (am 5)), some (.ref (am 6)), some (.ref (am 7)), some (.ref (am 10)), some (.int (nI j)), some (.int (nI ac - 1)), some (.int (nI ki - 1)), some (.int (nI dy)), some (.int (nI (cnB (fdP A j (nI ac - 1) (nI ki - 1) (nI dy)) (N 17)))), some (.int (bqS A j ac (N 17))), x16, x17, x18, x19, x20, x21] [] w c k := by
  have hJ0 := hJ
  obtain ⟨⟨G0, G1, G2, G3, G4, G5⟩, hB, hO, hP, hF, hR, hD, hV, hS, hT⟩ := hJ0
  obtain ⟨b1, b2, b3, b4, b5, b6⟩ := id hB
  have hb := hI.g0
  obtain ⟨fs0, hb0⟩ := hI.g0
  have hmiss : fC (fdP A j (nI ac - 1) (nI ki - 1) (nI dy)) (nI (cnB (fdP A j (nI ac - 1) (nI ki - 1) (nI dy)) (N 17))) (N 17) (N 17) 0 = -1 := by
    have hle := cnB_le (fdP A j (nI ac - 1) (nI ki - 1) (nI dy)) (N 17)
    have h9 := fC_miss (P := (fdP A j (nI ac - 1) (nI ki - 1) (nI dy))) (n := N 17) (m := cnB (fdP A j (nI ac - 1) (nI ki - 1) (nI dy)) (N 17)) (by omega) (by omega) (Nat.le_refl _) (N 17) (Nat.le_refl _)
    rw [Nat.sub_self] at h9
    exact h9
  refine g_aload0 dL_isTold_549 ?_
  refine g_iload10 dL_isTold_550 ?_
  refine g_iload11 dL_isTold_552 ?_
  refine g_iload12 dL_isTold_554 ?_
  refine g_iload13 dL_isTold_556 ?_
  refine g_iload14 dL_isTold_558 ?_
  refine g_callSW6 (lw_found_IOOB hb (kn_found_b hI hj (inb_ac ac hac) (inb_ki ki hki) (inb_nI (n := 9999) hdy (by decide)) hmiss)) md_L_found dL_isTold_560 ml_L_152 st_L_found (RmOk.of (Nat.le_of_ble_eq_true rfl) (Nat.le_of_ble_eq_true rfl) (Nat.le_of_ble_eq_true rfl) (by (try dsimp only [rm_L_isTold, rm_L_found]); omega) (by (try dsimp only [rm_L_isTold, rm_L_found]); omega)) (kr_V ?_) kx_V
  refine g_bipush (v := (-73)) dL_isTold_563 (by decide) ?_
  refine g_icmp_ne_f (tgt := 693) dL_isTold_565 (by decide) (by decide) ?_
  refine g_aload0 dL_isTold_568 ?_
  refine g_iload10 dL_isTold_569 ?_
  refine g_iload11 dL_isTold_571 ?_
  refine g_iload12 dL_isTold_573 ?_
  refine g_iload13 dL_isTold_575 ?_
  refine g_iconst (v := (-1)) dL_isTold_577 (by decide) ?_
  refine g_callSW6 (lw_found_IOOB hb (kn_found_b hI hj (inb_ac ac hac) (inb_ki ki hki) (inb_nI (n := 9999) hdy (by decide)) (fC_neg _ 0 (by omega)))) md_L_found dL_isTold_578 ml_L_152 st_L_found (RmOk.of (Nat.le_of_ble_eq_true rfl) (Nat.le_of_ble_eq_true rfl) (Nat.le_of_ble_eq_true rfl) (by (try dsimp only [rm_L_isTold, rm_L_found]); omega) (by (try dsimp only [rm_L_isTold, rm_L_found]); omega)) (kr_V ?_) kx_V
  refine g_bipush (v := (-73)) dL_isTold_581 (by decide) ?_
  refine g_icmp_ne_f (tgt := 693) dL_isTold_583 (by decide) (by decide) ?_
  refine g_aload0 dL_isTold_586 ?_
  refine g_iconst (v := 4) dL_isTold_587 (by decide) ?_
  refine g_iload11 dL_isTold_588 ?_
  refine g_iload12 dL_isTold_590 ?_
  refine g_iload13 dL_isTold_592 ?_
  refine g_iconst (v := (-1)) dL_isTold_594 (by decide) ?_
  refine g_callSW6 (lw_found_IAE hb (kn_found_a1 hI (by decide))) md_L_found dL_isTold_595 ml_L_152 st_L_found (RmOk.of (Nat.le_of_ble_eq_true rfl) (Nat.le_of_ble_eq_true rfl) (Nat.le_of_ble_eq_true rfl) (by (try dsimp only [rm_L_isTold, rm_L_found]); omega) (by (try dsimp only [rm_L_isTold, rm_L_found]); omega)) (kr_V ?_) kx_V
  refine g_bipush (v := (-71)) dL_isTold_598 (by decide) ?_
  refine g_icmp_ne_f (tgt := 693) dL_isTold_600 (by decide) (by decide) ?_
  refine g_aload0 dL_isTold_603 ?_
  refine g_iload10 dL_isTold_604 ?_
  refine g_bipush (v := (-2)) dL_isTold_606 (by decide) ?_
  refine g_iload12 dL_isTold_608 ?_
  refine g_iload13 dL_isTold_610 ?_
  refine g_iconst (v := 0) dL_isTold_612 (by decide) ?_
  refine g_callSW6 (lw_found_IAE hb (kn_found_a2 hI hj (by decide))) md_L_found dL_isTold_613 ml_L_152 st_L_found (RmOk.of (Nat.le_of_ble_eq_true rfl) (Nat.le_of_ble_eq_true rfl) (Nat.le_of_ble_eq_true rfl) (by (try dsimp only [rm_L_isTold, rm_L_found]); omega) (by (try dsimp only [rm_L_isTold, rm_L_found]); omega)) (kr_V ?_) kx_V
  refine g_bipush (v := (-71)) dL_isTold_616 (by decide) ?_
  refine g_icmp_ne_f (tgt := 693) dL_isTold_618 (by decide) (by decide) ?_
  refine g_aload0 dL_isTold_621 ?_
  refine g_iload10 dL_isTold_622 ?_
  refine g_bipush (v := 100) dL_isTold_624 (by decide) ?_
  refine g_iload12 dL_isTold_626 ?_
  refine g_iload13 dL_isTold_628 ?_
  refine g_iconst (v := 0) dL_isTold_630 (by decide) ?_
  refine g_callSW6 (lw_found_IAE hb (kn_found_a2 hI hj (by decide))) md_L_found dL_isTold_631 ml_L_152 st_L_found (RmOk.of (Nat.le_of_ble_eq_true rfl) (Nat.le_of_ble_eq_true rfl) (Nat.le_of_ble_eq_true rfl) (by (try dsimp only [rm_L_isTold, rm_L_found]); omega) (by (try dsimp only [rm_L_isTold, rm_L_found]); omega)) (kr_V ?_) kx_V
  refine g_bipush (v := (-71)) dL_isTold_634 (by decide) ?_
  refine g_icmp_ne_f (tgt := 693) dL_isTold_636 (by decide) (by decide) ?_
  refine g_aload0 dL_isTold_639 ?_
  refine g_iload10 dL_isTold_640 ?_
  refine g_iload11 dL_isTold_642 ?_
  refine g_iconst (v := 4) dL_isTold_644 (by decide) ?_
  refine g_iload13 dL_isTold_645 ?_
  refine g_iconst (v := 0) dL_isTold_647 (by decide) ?_
  refine g_callSW6 (lw_found_IAE hb (kn_found_a3 hI hj (inb_ac ac hac) (by decide))) md_L_found dL_isTold_648 ml_L_152 st_L_found (RmOk.of (Nat.le_of_ble_eq_true rfl) (Nat.le_of_ble_eq_true rfl) (Nat.le_of_ble_eq_true rfl) (by (try dsimp only [rm_L_isTold, rm_L_found]); omega) (by (try dsimp only [rm_L_isTold, rm_L_found]); omega)) (kr_V ?_) kx_V
  refine g_bipush (v := (-71)) dL_isTold_651 (by decide) ?_
  refine g_icmp_ne_f (tgt := 693) dL_isTold_653 (by decide) (by decide) ?_
  refine g_aload0 dL_isTold_656 ?_
  refine g_iload10 dL_isTold_657 ?_
  refine g_iload11 dL_isTold_659 ?_
  refine g_iload12 dL_isTold_661 ?_
  refine g_sipush (v := 10000) dL_isTold_663 (by decide) ?_
  refine g_iconst (v := 0) dL_isTold_666 (by decide) ?_
  refine g_callSW6 (lw_found_IAE hb (kn_found_a4 hI hj (inb_ac ac hac) (inb_ki ki hki) (by decide))) md_L_found dL_isTold_667 ml_L_152 st_L_found (RmOk.of (Nat.le_of_ble_eq_true rfl) (Nat.le_of_ble_eq_true rfl) (Nat.le_of_ble_eq_true rfl) (by (try dsimp only [rm_L_isTold, rm_L_found]); omega) (by (try dsimp only [rm_L_isTold, rm_L_found]); omega)) (kr_V ?_) kx_V
  refine g_bipush (v := (-71)) dL_isTold_670 (by decide) ?_
  refine g_icmp_ne_f (tgt := 693) dL_isTold_672 (by decide) (by decide) ?_
  refine g_iload11 dL_isTold_675 ?_
  refine g_if_lt (tgt := 695) dL_isTold_677 (by decide) (fun h677 => ?_) (fun h677 => ?_)
  · skip
    exact it_E hI hM hJ hj (by (try dsimp only [rm_L_account, rm_L_pages, rm_L_twice, rm_L_copies, rm_L_found, rm_L_read, rm_L_bundle, rm_L_sees, rm_L_low, rm_L_lines, rm_L_at, rm_L_isThere, rm_L_length, rm_X5_isThere, rm_X5_kind, rm_X5_length, rm_X5_documents]); omega) (by (try dsimp only [rm_L_account, rm_L_pages, rm_L_twice, rm_L_copies, rm_L_found, rm_L_read, rm_L_bundle, rm_L_sees, rm_L_low, rm_L_lines, rm_L_at, rm_L_isThere, rm_L_length, rm_X5_isThere, rm_X5_kind, rm_X5_length, rm_X5_documents]); omega)
  · skip
    refine g_aload0 dL_isTold_680 ?_
    refine g_iload10 dL_isTold_681 ?_
    refine g_iload11 dL_isTold_683 ?_
    refine g_callSW3 (lw_bundle_v hb (kn_bundle_b hI hj (inb_ba ac hac (fun q => h677 ((m1_lt ac hac).mpr q))))) md_L_bundle dL_isTold_685 ml_L_155 st_L_bundle (RmOk.of (Nat.le_of_ble_eq_true rfl) (Nat.le_of_ble_eq_true rfl) (Nat.le_of_ble_eq_true rfl) (by (try dsimp only [rm_L_isTold, rm_L_found, rm_L_bundle]); omega) (by (try dsimp only [rm_L_isTold, rm_L_found, rm_L_bundle]); omega)) (kr_V ?_) kx_V
    refine g_iload15 dL_isTold_688 ?_
    refine g_icmp_eq_t (tgt := 695) dL_isTold_690 (by decide) (by unfold bqS; rw [if_neg (fun q => h677 ((m1_lt ac hac).mpr q))]) ?_
    exact it_E hI hM hJ hj (by (try dsimp only [rm_L_account, rm_L_pages, rm_L_twice, rm_L_copies, rm_L_found, rm_L_read, rm_L_bundle, rm_L_sees, rm_L_low, rm_L_lines, rm_L_at, rm_L_isThere, rm_L_length, rm_X5_isThere, rm_X5_kind, rm_X5_length, rm_X5_documents]); omega) (by (try dsimp only [rm_L_account, rm_L_pages, rm_L_twice, rm_L_copies, rm_L_found, rm_L_read, rm_L_bundle, rm_L_sees, rm_L_low, rm_L_lines, rm_L_at, rm_L_isThere, rm_L_length, rm_X5_isThere, rm_X5_kind, rm_X5_length, rm_X5_documents]); omega)

set_option maxRecDepth 100000 in
theorem it_C4 {G : Gx} {C : Cx} {X : Nat → Prop} {am : Nat → Nat} {w : Wd} {kp : Nat} {FJ : Nat → Nat → Int64} {FI : Nat → Nat → Int32} {N : Nat → Nat} {A : Nat → Nat → Int32} {y z : Int32} (hI : Inv0 G X w kp N A w) (hM : LA G am w FJ FI w) (hJ : JJ N A FJ FI) {j ac ki dy : Nat} (hj : j < 4) (hac : ac < 7) (hki : ki < 5) (hdy : dy ≤ 9999) {i c k : Nat} {x18 x19 x20 x21 : Option Value} (hi : i < N 17) (hc : c ≤ 2400 + 10 * i) (hk : k ≤ 14400 + 60 * i) (hs : seeb A j i = true) (hA : (decide (nI ac - 1 = -1) || decide (A 20 i = nI ac - 1)) = true) (hK : (decide (nI ki - 1 = -1) || decide (A 21 i = nI ki - 1)) = true) (hnext : ∀ (c2 k2 : Nat) (x17 : Option Value), c2 ≤ 2400 + 10 * (i + 1) → k2 ≤ 14400 + 60 * (i + 1) → Go G rm_L_isTold cL_isTold RL (some .boolean, "isTold", []) C (QP G rm_L_isTold (PV (.int 1) w) C) 399 [some (.ref kp), some (.int y), some (.int z), some (.ref (am 1)), some (.ref (am 2)), some (.ref (am 3)), some (.ref (am 5)), some (.ref (am 6)), some (.ref (am 7)), some (.ref (am 10)), some (.int (nI j)), some (.int (nI ac - 1)), some (.int (nI ki - 1)), some (.int (nI dy)), some (.int (nI (cnB (fdP A j (nI ac - 1) (nI ki - 1) (nI dy)) (i + 1)))), some (.int (bqS A j ac (i + 1))), some (.int (nI (i + 1))), x17, x18, x19, x20, x21] [] w c2 k2)  : Go G rm_L_isTold cL_isTold RL ((some .boolean), "isTold", []) C (QP G rm_L_isTold (PV (.int 1) w) C) 497 [some (.ref kp), some (.int y), some (.int z), some (.ref (am 1)), some (.ref (am 2)), some (.ref (am 3)), some (.ref (am 5)), some (.ref (am 6)), some (.ref (am 7)), some (.ref (am 10)), some (.int (nI j)), some (.int (nI ac - 1)), some (.int (nI ki - 1)), some (.int (nI dy)), some (.int (nI (cnB (fdP A j (nI ac - 1) (nI ki - 1) (nI dy)) i))), some (.int (bqS A j ac (i + 1))), some (.int (nI i)), some (.int (A 20 i)), x18, x19, x20, x21] [] w c k := by
  have hJ0 := hJ
  obtain ⟨⟨G0, G1, G2, G3, G4, G5⟩, hB, hO, hP, hF, hR, hD, hV, hS, hT⟩ := hJ0
  obtain ⟨b1, b2, b3, b4, b5, b6⟩ := id hB
  have hb := hI.g0
  obtain ⟨fs0, hb0⟩ := hI.g0
  obtain ⟨acd, kid, fp, ru, ln, a1, a2, a3, a4, a5, a6, a7, a8, a9, a10, a11, a12⟩ := hD i hi
  obtain ⟨f, mm, dyr, hdyr, hm1, hfm, e15, e16, e14, e3⟩ := hR ru a5
  refine g_aload5 dL_isTold_497 ?_
  refine g_aload6 dL_isTold_499 ?_
  refine g_iload16 dL_isTold_501 ?_
  refine g_jiald (k := 5) hM (by decide) (by decide) dL_isTold_503 (show _ < 60 from by omega) ?_
  rw [a11]
  refine g_bipush (v := 15) dL_isTold_504 (by decide) ?_
  refine g_ishr dL_isTold_506 ?_
  rw [(pd_d a1 a2 (show fp < 64 by omega) (show ru < 15 by omega)).2.2.2]
  refine g_jiald (k := 3) hM (by decide) (by decide) dL_isTold_507 (show _ < 15 from by omega) ?_
  rw [e3]
  refine g_bipush (v := 12) dL_isTold_508 (by decide) ?_
  refine g_ishr dL_isTold_510 ?_
  rw [(pd_r hdyr (show f < 64 by omega) (show mm < 64 by omega)).2.2.1]
  refine g_iload13 dL_isTold_511 ?_
  refine g_icmp_ge (tgt := 519) dL_isTold_513 (by decide) (fun h513 => ?_) (fun h513 => ?_)
  · skip
    have hPi : (fdP A j (nI ac - 1) (nI ki - 1) (nI dy)) i = true := by
      unfold fdP
      rw [hs, hA, hK, a10, e14, decide_eq_false (Int32.not_lt.mpr h513)]; rfl
    have hle := cnB_le (fdP A j (nI ac - 1) (nI ki - 1) (nI dy)) i
    have hhit : fC (fdP A j (nI ac - 1) (nI ki - 1) (nI dy)) (nI (cnB (fdP A j (nI ac - 1) (nI ki - 1) (nI dy)) i)) (N 17) (N 17) 0 = nI i := by
      have h9 := fC_hit (P := (fdP A j (nI ac - 1) (nI ki - 1) (nI dy))) (n := N 17) (k := i) (by omega) hi hPi (N 17) (Nat.le_refl _) (by omega)
      rw [Nat.sub_self] at h9
      exact h9
    refine g_aload0 dL_isTold_519 ?_
    refine g_iload10 dL_isTold_520 ?_
    refine g_iload11 dL_isTold_522 ?_
    refine g_iload12 dL_isTold_524 ?_
    refine g_iload13 dL_isTold_526 ?_
    refine g_iload14 dL_isTold_528 ?_
    refine g_callSW6 (lw_found_v hb (kn_found_c hI hj (inb_ac ac hac) (inb_ki ki hki) (inb_nI (n := 9999) hdy (by decide)) (show i < 1000 by omega) hhit)) md_L_found dL_isTold_530 ml_L_152 st_L_found (RmOk.of (Nat.le_of_ble_eq_true rfl) (Nat.le_of_ble_eq_true rfl) (Nat.le_of_ble_eq_true rfl) (by (try dsimp only [rm_L_isTold, rm_L_found]); omega) (by (try dsimp only [rm_L_isTold, rm_L_found]); omega)) (kr_V ?_) kx_V
    refine g_iload16 dL_isTold_533 ?_
    refine g_icmp_eq_t (tgt := 540) dL_isTold_535 (by decide) rfl ?_
    refine g_iinc14 (v' := (nI (cnB (fdP A j (nI ac - 1) (nI ki - 1) (nI dy)) i + 1))) dL_isTold_540 (nI_1 _) ?_
    refine g_iinc16 (v' := (nI (i + 1))) dL_isTold_543 (nI_1 i) ?_
    refine g_goto (tgt := 399) dL_isTold_546 (by decide) ?_
    rw [cnB_t hPi] at hnext
    exact hnext _ _ _ (by (try dsimp only [rm_L_account, rm_L_pages, rm_L_twice, rm_L_copies, rm_L_found, rm_L_read, rm_L_bundle, rm_L_sees, rm_L_low, rm_L_lines, rm_L_at, rm_L_isThere, rm_L_length, rm_X5_isThere, rm_X5_kind, rm_X5_length, rm_X5_documents]); omega) (by (try dsimp only [rm_L_account, rm_L_pages, rm_L_twice, rm_L_copies, rm_L_found, rm_L_read, rm_L_bundle, rm_L_sees, rm_L_low, rm_L_lines, rm_L_at, rm_L_isThere, rm_L_length, rm_X5_isThere, rm_X5_kind, rm_X5_length, rm_X5_documents]); omega)
  · skip
    have hPi : (fdP A j (nI ac - 1) (nI ki - 1) (nI dy)) i = false := by
      unfold fdP
      rw [a10, e14, decide_eq_true (Int32.not_le.mp h513)]; simp
    refine g_goto (tgt := 543) dL_isTold_516 (by decide) ?_
    refine g_iinc16 (v' := (nI (i + 1))) dL_isTold_543 (nI_1 i) ?_
    refine g_goto (tgt := 399) dL_isTold_546 (by decide) ?_
    rw [cnB_f hPi] at hnext
    exact hnext _ _ _ (by (try dsimp only [rm_L_account, rm_L_pages, rm_L_twice, rm_L_copies, rm_L_found, rm_L_read, rm_L_bundle, rm_L_sees, rm_L_low, rm_L_lines, rm_L_at, rm_L_isThere, rm_L_length, rm_X5_isThere, rm_X5_kind, rm_X5_length, rm_X5_documents]); omega) (by (try dsimp only [rm_L_account, rm_L_pages, rm_L_twice, rm_L_copies, rm_L_found, rm_L_read, rm_L_bundle, rm_L_sees, rm_L_low, rm_L_lines, rm_L_at, rm_L_isThere, rm_L_length, rm_X5_isThere, rm_X5_kind, rm_X5_length, rm_X5_documents]); omega)

set_option maxRecDepth 100000 in
theorem it_C3 {G : Gx} {C : Cx} {X : Nat → Prop} {am : Nat → Nat} {w : Wd} {kp : Nat} {FJ : Nat → Nat → Int64} {FI : Nat → Nat → Int32} {N : Nat → Nat} {A : Nat → Nat → Int32} {y z : Int32} (hI : Inv0 G X w kp N A w) (hM : LA G am w FJ FI w) (hJ : JJ N A FJ FI) {j ac ki dy : Nat} (hj : j < 4) (hac : ac < 7) (hki : ki < 5) (hdy : dy ≤ 9999) {i c k : Nat} {x18 x19 x20 x21 : Option Value} (hi : i < N 17) (hc : c ≤ 2400 + 10 * i) (hk : k ≤ 14400 + 60 * i) (hs : seeb A j i = true) (hA : (decide (nI ac - 1 = -1) || decide (A 20 i = nI ac - 1)) = true) (hnext : ∀ (c2 k2 : Nat) (x17 : Option Value), c2 ≤ 2400 + 10 * (i + 1) → k2 ≤ 14400 + 60 * (i + 1) → Go G rm_L_isTold cL_isTold RL (some .boolean, "isTold", []) C (QP G rm_L_isTold (PV (.int 1) w) C) 399 [some (.ref kp), some (.int y), some (.int z), some (.ref (am 1)), some (.ref (am 2)), some (.ref (am 3)), some (.ref (am 5)), some (.ref (am 6)), some (.ref (am 7)), some (.ref (am 10)), some (.int (nI j)), some (.int (nI ac - 1)), some (.int (nI ki - 1)), some (.int (nI dy)), some (.int (nI (cnB (fdP A j (nI ac - 1) (nI ki - 1) (nI dy)) (i + 1)))), some (.int (bqS A j ac (i + 1))), some (.int (nI (i + 1))), x17, x18, x19, x20, x21] [] w c2 k2)  : Go G rm_L_isTold cL_isTold RL ((some .boolean), "isTold", []) C (QP G rm_L_isTold (PV (.int 1) w) C) 477 [some (.ref kp), some (.int y), some (.int z), some (.ref (am 1)), some (.ref (am 2)), some (.ref (am 3)), some (.ref (am 5)), some (.ref (am 6)), some (.ref (am 7)), some (.ref (am 10)), some (.int (nI j)), some (.int (nI ac - 1)), some (.int (nI ki - 1)), some (.int (nI dy)), some (.int (nI (cnB (fdP A j (nI ac - 1) (nI ki - 1) (nI dy)) i))), some (.int (bqS A j ac (i + 1))), some (.int (nI i)), some (.int (A 20 i)), x18, x19, x20, x21] [] w c k := by
  have hJ0 := hJ
  obtain ⟨⟨G0, G1, G2, G3, G4, G5⟩, hB, hO, hP, hF, hR, hD, hV, hS, hT⟩ := hJ0
  obtain ⟨b1, b2, b3, b4, b5, b6⟩ := id hB
  have hb := hI.g0
  obtain ⟨fs0, hb0⟩ := hI.g0
  obtain ⟨acd, kid, fp, ru, ln, a1, a2, a3, a4, a5, a6, a7, a8, a9, a10, a11, a12⟩ := hD i hi
  obtain ⟨f, mm, dyr, hdyr, hm1, hfm, e15, e16, e14, e3⟩ := hR ru a5
  refine g_iload12 dL_isTold_477 ?_
  refine g_if_lt (tgt := 497) dL_isTold_479 (by decide) (fun h479 => ?_) (fun h479 => ?_)
  · skip
    exact it_C4 hI hM hJ hj hac hki hdy hi hc hk hs hA (by rw [decide_eq_true ((m1_eq ki (by omega)).mpr ((m1_lt ki (by omega)).mp h479))]; rfl) hnext
  · skip
    refine g_aload6 dL_isTold_482 ?_
    refine g_iload16 dL_isTold_484 ?_
    refine g_jiald (k := 5) hM (by decide) (by decide) dL_isTold_486 (show _ < 60 from by omega) ?_
    rw [a11]
    refine g_bipush (v := 7) dL_isTold_487 (by decide) ?_
    refine g_ishr dL_isTold_489 ?_
    refine g_iconst (v := 3) dL_isTold_490 (by decide) ?_
    refine g_iand dL_isTold_491 ?_
    rw [(pd_d a1 a2 (show fp < 64 by omega) (show ru < 15 by omega)).2.1]
    refine g_iload12 dL_isTold_492 ?_
    refine g_icmp_ne (tgt := 543) dL_isTold_494 (by decide) (fun h494 => ?_) (fun h494 => ?_)
    · skip
      have hPi : (fdP A j (nI ac - 1) (nI ki - 1) (nI dy)) i = false := by
        unfold fdP
        rw [decide_eq_false (fun q => h479 ((m1_lt ki (by omega)).mpr ((m1_eq ki (by omega)).mp q))), decide_eq_false (fun q => h494 (a7.symm.trans q))]; simp
      refine g_iinc16 (v' := (nI (i + 1))) dL_isTold_543 (nI_1 i) ?_
      refine g_goto (tgt := 399) dL_isTold_546 (by decide) ?_
      rw [cnB_f hPi] at hnext
      exact hnext _ _ _ (by (try dsimp only [rm_L_account, rm_L_pages, rm_L_twice, rm_L_copies, rm_L_found, rm_L_read, rm_L_bundle, rm_L_sees, rm_L_low, rm_L_lines, rm_L_at, rm_L_isThere, rm_L_length, rm_X5_isThere, rm_X5_kind, rm_X5_length, rm_X5_documents]); omega) (by (try dsimp only [rm_L_account, rm_L_pages, rm_L_twice, rm_L_copies, rm_L_found, rm_L_read, rm_L_bundle, rm_L_sees, rm_L_low, rm_L_lines, rm_L_at, rm_L_isThere, rm_L_length, rm_X5_isThere, rm_X5_kind, rm_X5_length, rm_X5_documents]); omega)
    · skip
      exact it_C4 hI hM hJ hj hac hki hdy hi hc hk hs hA (by rw [decide_eq_true (a7.trans h494)]; exact Bool.or_true _) hnext

set_option maxRecDepth 100000 in
theorem it_C2 {G : Gx} {C : Cx} {X : Nat → Prop} {am : Nat → Nat} {w : Wd} {kp : Nat} {FJ : Nat → Nat → Int64} {FI : Nat → Nat → Int32} {N : Nat → Nat} {A : Nat → Nat → Int32} {y z : Int32} (hI : Inv0 G X w kp N A w) (hM : LA G am w FJ FI w) (hJ : JJ N A FJ FI) {j ac ki dy : Nat} (hj : j < 4) (hac : ac < 7) (hki : ki < 5) (hdy : dy ≤ 9999) {i c k : Nat} {x18 x19 x20 x21 : Option Value} (hi : i < N 17) (hc : c ≤ 2400 + 10 * i) (hk : k ≤ 14400 + 60 * i) (hs : seeb A j i = true) (hnext : ∀ (c2 k2 : Nat) (x17 : Option Value), c2 ≤ 2400 + 10 * (i + 1) → k2 ≤ 14400 + 60 * (i + 1) → Go G rm_L_isTold cL_isTold RL (some .boolean, "isTold", []) C (QP G rm_L_isTold (PV (.int 1) w) C) 399 [some (.ref kp), some (.int y), some (.int z), some (.ref (am 1)), some (.ref (am 2)), some (.ref (am 3)), some (.ref (am 5)), some (.ref (am 6)), some (.ref (am 7)), some (.ref (am 10)), some (.int (nI j)), some (.int (nI ac - 1)), some (.int (nI ki - 1)), some (.int (nI dy)), some (.int (nI (cnB (fdP A j (nI ac - 1) (nI ki - 1) (nI dy)) (i + 1)))), some (.int (bqS A j ac (i + 1))), some (.int (nI (i + 1))), x17, x18, x19, x20, x21] [] w c2 k2)  : Go G rm_L_isTold cL_isTold RL ((some .boolean), "isTold", []) C (QP G rm_L_isTold (PV (.int 1) w) C) 465 [some (.ref kp), some (.int y), some (.int z), some (.ref (am 1)), some (.ref (am 2)), some (.ref (am 3)), some (.ref (am 5)), some (.ref (am 6)), some (.ref (am 7)), some (.ref (am 10)), some (.int (nI j)), some (.int (nI ac - 1)), some (.int (nI ki - 1)), some (.int (nI dy)), some (.int (nI (cnB (fdP A j (nI ac - 1) (nI ki - 1) (nI dy)) i))), some (.int (bqS A j ac (i + 1))), some (.int (nI i)), some (.int (A 20 i)), x18, x19, x20, x21] [] w c k := by
  have hJ0 := hJ
  obtain ⟨⟨G0, G1, G2, G3, G4, G5⟩, hB, hO, hP, hF, hR, hD, hV, hS, hT⟩ := hJ0
  obtain ⟨b1, b2, b3, b4, b5, b6⟩ := id hB
  have hb := hI.g0
  obtain ⟨fs0, hb0⟩ := hI.g0
  obtain ⟨acd, kid, fp, ru, ln, a1, a2, a3, a4, a5, a6, a7, a8, a9, a10, a11, a12⟩ := hD i hi
  obtain ⟨f, mm, dyr, hdyr, hm1, hfm, e15, e16, e14, e3⟩ := hR ru a5
  refine g_iload11 dL_isTold_465 ?_
  refine g_if_lt (tgt := 477) dL_isTold_467 (by decide) (fun h467 => ?_) (fun h467 => ?_)
  · skip
    exact it_C3 hI hM hJ hj hac hki hdy hi hc hk hs (by rw [decide_eq_true ((m1_eq ac hac).mpr ((m1_lt ac hac).mp h467))]; rfl) hnext
  · skip
    refine g_iload17 dL_isTold_470 ?_
    refine g_iload11 dL_isTold_472 ?_
    refine g_icmp_ne (tgt := 543) dL_isTold_474 (by decide) (fun h474 => ?_) (fun h474 => ?_)
    · skip
      have hPi : (fdP A j (nI ac - 1) (nI ki - 1) (nI dy)) i = false := by
        unfold fdP
        rw [decide_eq_false (fun q => h467 ((m1_lt ac hac).mpr ((m1_eq ac hac).mp q))), decide_eq_false h474]; simp
      refine g_iinc16 (v' := (nI (i + 1))) dL_isTold_543 (nI_1 i) ?_
      refine g_goto (tgt := 399) dL_isTold_546 (by decide) ?_
      rw [cnB_f hPi] at hnext
      exact hnext _ _ _ (by (try dsimp only [rm_L_account, rm_L_pages, rm_L_twice, rm_L_copies, rm_L_found, rm_L_read, rm_L_bundle, rm_L_sees, rm_L_low, rm_L_lines, rm_L_at, rm_L_isThere, rm_L_length, rm_X5_isThere, rm_X5_kind, rm_X5_length, rm_X5_documents]); omega) (by (try dsimp only [rm_L_account, rm_L_pages, rm_L_twice, rm_L_copies, rm_L_found, rm_L_read, rm_L_bundle, rm_L_sees, rm_L_low, rm_L_lines, rm_L_at, rm_L_isThere, rm_L_length, rm_X5_isThere, rm_X5_kind, rm_X5_length, rm_X5_documents]); omega)
    · skip
      exact it_C3 hI hM hJ hj hac hki hdy hi hc hk hs (by rw [decide_eq_true h474]; exact Bool.or_true _) hnext

set_option maxRecDepth 100000 in
theorem it_C1 {G : Gx} {C : Cx} {X : Nat → Prop} {am : Nat → Nat} {w : Wd} {kp : Nat} {FJ : Nat → Nat → Int64} {FI : Nat → Nat → Int32} {N : Nat → Nat} {A : Nat → Nat → Int32} {y z : Int32} (hI : Inv0 G X w kp N A w) (hM : LA G am w FJ FI w) (hJ : JJ N A FJ FI) {j ac ki dy : Nat} (hj : j < 4) (hac : ac < 7) (hki : ki < 5) (hdy : dy ≤ 9999) {i c k : Nat} {x18 x19 x20 x21 : Option Value} (hi : i < N 17) (hc : c ≤ 2400 + 10 * i) (hk : k ≤ 14400 + 60 * i) {x17 : Option Value} (hnext : ∀ (c2 k2 : Nat) (x17 : Option Value), c2 ≤ 2400 + 10 * (i + 1) → k2 ≤ 14400 + 60 * (i + 1) → Go G rm_L_isTold cL_isTold RL (some .boolean, "isTold", []) C (QP G rm_L_isTold (PV (.int 1) w) C) 399 [some (.ref kp), some (.int y), some (.int z), some (.ref (am 1)), some (.ref (am 2)), some (.ref (am 3)), some (.ref (am 5)), some (.ref (am 6)), some (.ref (am 7)), some (.ref (am 10)), some (.int (nI j)), some (.int (nI ac - 1)), some (.int (nI ki - 1)), some (.int (nI dy)), some (.int (nI (cnB (fdP A j (nI ac - 1) (nI ki - 1) (nI dy)) (i + 1)))), some (.int (bqS A j ac (i + 1))), some (.int (nI (i + 1))), x17, x18, x19, x20, x21] [] w c2 k2) : Go G rm_L_isTold cL_isTold RL (some .boolean, "isTold", []) C (QP G rm_L_isTold (PV (.int 1) w) C) 408 [some (.ref kp), some (.int y), some (.int z), some (.ref (am 1)), some (.ref (am 2)), some (.ref (am 3)), some (.ref (am 5)), some (.ref (am 6)), some (.ref (am 7)), some (.ref (am 10)), some (.int (nI j)), some (.int (nI ac - 1)), some (.int (nI ki - 1)), some (.int (nI dy)), some (.int (nI (cnB (fdP A j (nI ac - 1) (nI ki - 1) (nI dy)) i))), some (.int (bqS A j ac i)), some (.int (nI i)), x17, x18, x19, x20, x21] [] w c k := by
  have hJ0 := hJ
  obtain ⟨⟨G0, G1, G2, G3, G4, G5⟩, hB, hO, hP, hF, hR, hD, hV, hS, hT⟩ := hJ0
  obtain ⟨b1, b2, b3, b4, b5, b6⟩ := id hB
  have hb := hI.g0
  obtain ⟨fs0, hb0⟩ := hI.g0
  obtain ⟨acd, kid, fp, ru, ln, a1, a2, a3, a4, a5, a6, a7, a8, a9, a10, a11, a12⟩ := hD i hi
  obtain ⟨f, mm, dyr, hdyr, hm1, hfm, e15, e16, e14, e3⟩ := hR ru a5
  cases hs : seeb A j i with
  | true =>
    have h6v : FI 6 i = nI ln := by
      rcases a12 with ⟨-, q⟩ | ⟨q, -⟩
      · exact q
      · rw [see_there hs] at q; exact absurd q (by decide)
    refine g_aload6 dL_isTold_408 ?_
    refine g_aload7 dL_isTold_410 ?_
    refine g_aload8 dL_isTold_412 ?_
    refine g_iload10 dL_isTold_414 ?_
    refine g_iload16 dL_isTold_416 ?_
    refine g_callS5 (ct_sees hM hB hi (hD i hi) hj hV) md_L_sees dL_isTold_418 ml_L_148 st_L_sees (RmOk.of (Nat.le_of_ble_eq_true rfl) (Nat.le_of_ble_eq_true rfl) (Nat.le_of_ble_eq_true rfl) (by (try dsimp only [rm_L_isTold, rm_L_sees]); omega) (by (try dsimp only [rm_L_isTold, rm_L_sees]); omega)) (kr_V ?_) kx_V
    rw [hs]
    refine g_if_ne_t (tgt := 427) dL_isTold_421 (by decide) (by decide) ?_
    refine g_aload6 dL_isTold_427 ?_
    refine g_iload16 dL_isTold_429 ?_
    refine g_jiald (k := 5) hM (by decide) (by decide) dL_isTold_431 (show _ < 60 from by omega) ?_
    rw [a11]
    refine g_bipush (v := 127) dL_isTold_432 (by decide) ?_
    refine g_iand dL_isTold_434 ?_
    rw [(pd_d a1 a2 (show fp < 64 by omega) (show ru < 15 by omega)).1]
    refine g_iconst (v := 1) dL_isTold_435 (by decide) ?_
    refine g_isub dL_isTold_436 ?_
    rw [← a6]
    refine g_istore17 dL_isTold_437 ?_
    refine g_iload15 dL_isTold_439 ?_
    refine g_iload17 dL_isTold_441 ?_
    refine g_iload11 dL_isTold_443 ?_
    refine g_icmp_ne (tgt := 461) dL_isTold_445 (by decide) (fun h445 => ?_) (fun h445 => ?_)
    · skip
      refine g_iconst (v := 0) dL_isTold_461 (by decide) ?_
      refine g_iadd dL_isTold_462 ?_
      refine g_istore15 dL_isTold_463 ?_
      rw [show bqS A j ac i + 0 = bqS A j ac (i + 1) by rw [Int32.add_zero]; exact (bqS_n (Or.inr (Or.inl h445))).symm]
      exact it_C2 hI hM hJ hj hac hki hdy hi (by (try dsimp only [rm_L_account, rm_L_pages, rm_L_twice, rm_L_copies, rm_L_found, rm_L_read, rm_L_bundle, rm_L_sees, rm_L_low, rm_L_lines, rm_L_at, rm_L_isThere, rm_L_length, rm_X5_isThere, rm_X5_kind, rm_X5_length, rm_X5_documents]); omega) (by (try dsimp only [rm_L_account, rm_L_pages, rm_L_twice, rm_L_copies, rm_L_found, rm_L_read, rm_L_bundle, rm_L_sees, rm_L_low, rm_L_lines, rm_L_at, rm_L_isThere, rm_L_length, rm_X5_isThere, rm_X5_kind, rm_X5_length, rm_X5_documents]); omega) hs hnext
    · skip
      refine g_iload11 dL_isTold_448 ?_
      refine g_if_lt (tgt := 461) dL_isTold_450 (by decide) (fun h450 => ?_) (fun h450 => ?_)
      · skip
        refine g_iconst (v := 0) dL_isTold_461 (by decide) ?_
        refine g_iadd dL_isTold_462 ?_
        refine g_istore15 dL_isTold_463 ?_
        rw [show bqS A j ac i + 0 = bqS A j ac (i + 1) by rw [Int32.add_zero]; exact (bqS_n (Or.inl ((m1_lt ac hac).mp h450))).symm]
        exact it_C2 hI hM hJ hj hac hki hdy hi (by (try dsimp only [rm_L_account, rm_L_pages, rm_L_twice, rm_L_copies, rm_L_found, rm_L_read, rm_L_bundle, rm_L_sees, rm_L_low, rm_L_lines, rm_L_at, rm_L_isThere, rm_L_length, rm_X5_isThere, rm_X5_kind, rm_X5_length, rm_X5_documents]); omega) (by (try dsimp only [rm_L_account, rm_L_pages, rm_L_twice, rm_L_copies, rm_L_found, rm_L_read, rm_L_bundle, rm_L_sees, rm_L_low, rm_L_lines, rm_L_at, rm_L_isThere, rm_L_length, rm_X5_isThere, rm_X5_kind, rm_X5_length, rm_X5_documents]); omega) hs hnext
      · skip
        refine g_aload7 dL_isTold_453 ?_
        refine g_iload16 dL_isTold_455 ?_
        refine g_jiald (k := 6) hM (by decide) (by decide) dL_isTold_457 (show _ < 60 from by omega) ?_
        rw [h6v]
        refine g_goto (tgt := 462) dL_isTold_458 (by decide) ?_
        refine g_iadd dL_isTold_462 ?_
        refine g_istore15 dL_isTold_463 ?_
        rw [show bqS A j ac i + nI ln = bqS A j ac (i + 1) by rw [← a9]; exact (bqS_s (fun q => h450 ((m1_lt ac hac).mpr q)) h445 hs).symm]
        exact it_C2 hI hM hJ hj hac hki hdy hi (by (try dsimp only [rm_L_account, rm_L_pages, rm_L_twice, rm_L_copies, rm_L_found, rm_L_read, rm_L_bundle, rm_L_sees, rm_L_low, rm_L_lines, rm_L_at, rm_L_isThere, rm_L_length, rm_X5_isThere, rm_X5_kind, rm_X5_length, rm_X5_documents]); omega) (by (try dsimp only [rm_L_account, rm_L_pages, rm_L_twice, rm_L_copies, rm_L_found, rm_L_read, rm_L_bundle, rm_L_sees, rm_L_low, rm_L_lines, rm_L_at, rm_L_isThere, rm_L_length, rm_X5_isThere, rm_X5_kind, rm_X5_length, rm_X5_documents]); omega) hs hnext
  | false =>
    have hPi : (fdP A j (nI ac - 1) (nI ki - 1) (nI dy)) i = false := by
      unfold fdP
      rw [hs]; rfl
    refine g_aload6 dL_isTold_408 ?_
    refine g_aload7 dL_isTold_410 ?_
    refine g_aload8 dL_isTold_412 ?_
    refine g_iload10 dL_isTold_414 ?_
    refine g_iload16 dL_isTold_416 ?_
    refine g_callS5 (ct_sees hM hB hi (hD i hi) hj hV) md_L_sees dL_isTold_418 ml_L_148 st_L_sees (RmOk.of (Nat.le_of_ble_eq_true rfl) (Nat.le_of_ble_eq_true rfl) (Nat.le_of_ble_eq_true rfl) (by (try dsimp only [rm_L_isTold, rm_L_sees]); omega) (by (try dsimp only [rm_L_isTold, rm_L_sees]); omega)) (kr_V ?_) kx_V
    rw [hs]
    refine g_if_ne_f (tgt := 427) dL_isTold_421 (by decide) rfl ?_
    refine g_goto (tgt := 543) dL_isTold_424 (by decide) ?_
    refine g_iinc16 (v' := (nI (i + 1))) dL_isTold_543 (nI_1 i) ?_
    refine g_goto (tgt := 399) dL_isTold_546 (by decide) ?_
    rw [cnB_f hPi, bqS_n (Or.inr (Or.inr hs))] at hnext
    exact hnext _ _ _ (by (try dsimp only [rm_L_account, rm_L_pages, rm_L_twice, rm_L_copies, rm_L_found, rm_L_read, rm_L_bundle, rm_L_sees, rm_L_low, rm_L_lines, rm_L_at, rm_L_isThere, rm_L_length, rm_X5_isThere, rm_X5_kind, rm_X5_length, rm_X5_documents]); omega) (by (try dsimp only [rm_L_account, rm_L_pages, rm_L_twice, rm_L_copies, rm_L_found, rm_L_read, rm_L_bundle, rm_L_sees, rm_L_low, rm_L_lines, rm_L_at, rm_L_isThere, rm_L_length, rm_X5_isThere, rm_X5_kind, rm_X5_length, rm_X5_documents]); omega)

set_option maxRecDepth 100000 in
theorem it_C {G : Gx} {C : Cx} {X : Nat → Prop} {am : Nat → Nat} {w : Wd} {kp : Nat} {FJ : Nat → Nat → Int64} {FI : Nat → Nat → Int32} {N : Nat → Nat} {A : Nat → Nat → Int32} {y z : Int32} (hI : Inv0 G X w kp N A w) (hM : LA G am w FJ FI w) (hJ : JJ N A FJ FI) {j ac ki dy : Nat} (hj : j < 4) (hac : ac < 7) (hki : ki < 5) (hdy : dy ≤ 9999) {x18 x19 x20 x21 : Option Value} : ∀ (M i c k : Nat) (x17 : Option Value), N 17 - i < M → i ≤ N 17 → c ≤ 2400 + 10 * i → k ≤ 14400 + 60 * i → Go G rm_L_isTold cL_isTold RL (some .boolean, "isTold", []) C (QP G rm_L_isTold (PV (.int 1) w) C) 399 [some (.ref kp), some (.int y), some (.int z), some (.ref (am 1)), some (.ref (am 2)), some (.ref (am 3)), some (.ref (am 5)), some (.ref (am 6)), some (.ref (am 7)), some (.ref (am 10)), some (.int (nI j)), some (.int (nI ac - 1)), some (.int (nI ki - 1)), some (.int (nI dy)), some (.int (nI (cnB (fdP A j (nI ac - 1) (nI ki - 1) (nI dy)) i))), some (.int (bqS A j ac i)), some (.int (nI i)), x17, x18, x19, x20, x21] [] w c k := by
  have hB := hJ.2.1
  obtain ⟨b1, b2, b3, b4, b5, b6⟩ := id hB
  intro M
  induction M with
  | zero => intro i c k x17 hM9; exact absurd hM9 (Nat.not_lt_zero _)
  | succ M ih =>
    intro i c k x17 hi9 hi hc hk
    refine g_iload16 dL_isTold_399 ?_
    refine g_aload9 dL_isTold_401 ?_
    refine g_iconst (v := 5) dL_isTold_403 (by decide) ?_
    refine g_jiald (k := 10) (i := 5) hM (by decide) (by decide) dL_isTold_404 (show _ < 6 from by omega) ?_
    rw [hJ.1.2.2.2.2.2]
    refine g_icmp_ge (tgt := 549) dL_isTold_405 (by decide) (fun h405 => ?_) (fun h405 => ?_)
    · skip
      have hin : i = N 17 := by have := idx_ge (by omega) (by omega) h405; omega
      rw [hin]
      exact it_D hI hM hJ hj hac hki hdy (by (try dsimp only [rm_L_account, rm_L_pages, rm_L_twice, rm_L_copies, rm_L_found, rm_L_read, rm_L_bundle, rm_L_sees, rm_L_low, rm_L_lines, rm_L_at, rm_L_isThere, rm_L_length, rm_X5_isThere, rm_X5_kind, rm_X5_length, rm_X5_documents]); omega) (by (try dsimp only [rm_L_account, rm_L_pages, rm_L_twice, rm_L_copies, rm_L_found, rm_L_read, rm_L_bundle, rm_L_sees, rm_L_low, rm_L_lines, rm_L_at, rm_L_isThere, rm_L_length, rm_X5_isThere, rm_X5_kind, rm_X5_length, rm_X5_documents]); omega)
    · skip
      have hlt : i < N 17 := by have := idx_lt (by omega) (by omega) h405; omega
      exact it_C1 hI hM hJ hj hac hki hdy hlt hc hk (fun c2 k2 x17 q1 q2 => ih (i + 1) c2 k2 x17 (by omega) (by omega) q1 q2)

set_option maxRecDepth 100000 in
theorem it_C0b {G : Gx} {C : Cx} {X : Nat → Prop} {am : Nat → Nat} {w : Wd} {kp : Nat} {FJ : Nat → Nat → Int64} {FI : Nat → Nat → Int32} {N : Nat → Nat} {A : Nat → Nat → Int32} {y z : Int32} (hI : Inv0 G X w kp N A w) (hM : LA G am w FJ FI w) (hJ : JJ N A FJ FI) {j ac ki dy : Nat} (hj : j < 4) (hac : ac < 7) (hki : ki < 5) (hdy : dy ≤ 9999) {x14 x15 x16 x17 x18 x19 x20 x21 : Option Value} {c k : Nat} (hc : c ≤ 2400) (hk : k ≤ 14400) {x13 : Option Value}  : Go G rm_L_isTold cL_isTold RL ((some .boolean), "isTold", []) C (QP G rm_L_isTold (PV (.int 1) w) C) 388 [some (.ref kp), some (.int y), some (.int z), some (.ref (am 1)), some (.ref (am 2)), some (.ref (am 3)), some (.ref (am 5)), some (.ref (am 6)), some (.ref (am 7)), some (.ref (am 10)), some (.int (nI j)), some (.int (nI ac - 1)), some (.int (nI ki - 1)), x13, x14, x15, x16, x17, x18, x19, x20, x21] [.int (nI dy)] w c k := by
  refine g_istore13 dL_isTold_388 ?_
  refine g_iconst (v := 0) dL_isTold_390 (by decide) ?_
  refine g_istore14 dL_isTold_391 ?_
  refine g_iconst (v := 0) dL_isTold_393 (by decide) ?_
  refine g_istore15 dL_isTold_394 ?_
  refine g_iconst (v := 0) dL_isTold_396 (by decide) ?_
  refine g_istore16 dL_isTold_397 ?_
  have h9 := it_C (C := C) (y := y) (z := z) (x18 := x18) (x19 := x19) (x20 := x20) (x21 := x21) hI hM hJ hj hac hki hdy (N 17 + 1) 0 c k x17 (by omega) (Nat.zero_le _) (by (try dsimp only [rm_L_account, rm_L_pages, rm_L_twice, rm_L_copies, rm_L_found, rm_L_read, rm_L_bundle, rm_L_sees, rm_L_low, rm_L_lines, rm_L_at, rm_L_isThere, rm_L_length, rm_X5_isThere, rm_X5_kind, rm_X5_length, rm_X5_documents]); omega) (by (try dsimp only [rm_L_account, rm_L_pages, rm_L_twice, rm_L_copies, rm_L_found, rm_L_read, rm_L_bundle, rm_L_sees, rm_L_low, rm_L_lines, rm_L_at, rm_L_isThere, rm_L_length, rm_X5_isThere, rm_X5_kind, rm_X5_length, rm_X5_documents]); omega)
  rw [bqS_0] at h9
  exact h9

set_option maxRecDepth 100000 in
theorem it_C0a {G : Gx} {C : Cx} {X : Nat → Prop} {am : Nat → Nat} {w : Wd} {kp : Nat} {FJ : Nat → Nat → Int64} {FI : Nat → Nat → Int32} {N : Nat → Nat} {A : Nat → Nat → Int32} {y z : Int32} (hI : Inv0 G X w kp N A w) (hM : LA G am w FJ FI w) (hJ : JJ N A FJ FI) {j ac ki x : Nat} (hj : j < 4) (hac : ac < 7) (hki : ki < 5) (hx : x < 100000) {x13 x14 x15 x16 x17 x18 x19 x20 x21 : Option Value} {c k : Nat} (hc : c ≤ 2400) (hk : k ≤ 14400)  : Go G rm_L_isTold cL_isTold RL ((some .boolean), "isTold", []) C (QP G rm_L_isTold (PV (.int 1) w) C) 370 [some (.ref kp), some (.int y), some (.int z), some (.ref (am 1)), some (.ref (am 2)), some (.ref (am 3)), some (.ref (am 5)), some (.ref (am 6)), some (.ref (am 7)), some (.ref (am 10)), some (.int (nI j)), some (.int (nI ac - 1)), some (.int (nI ki - 1)), x13, x14, x15, x16, x17, x18, x19, x20, x21] [.int (nI x)] w c k := by
  refine g_istore13 dL_isTold_370 ?_
  refine g_iload13 dL_isTold_372 ?_
  refine g_sipush (v := 9999) dL_isTold_374 (by decide) ?_
  refine g_icmp_le (tgt := 386) dL_isTold_377 (by decide) (fun h377 => ?_) (fun h377 => ?_)
  · skip
    have hx2 := (nI_leI (b := 9999) (by omega) (by decide)).mp h377
    refine g_iload13 dL_isTold_386 ?_
    exact it_C0b (dy := x) hI hM hJ hj hac hki hx2 hc hk
  · skip
    refine g_sipush (v := 9999) dL_isTold_380 (by decide) ?_
    refine g_goto (tgt := 388) dL_isTold_383 (by decide) ?_
    exact it_C0b (dy := 9999) hI hM hJ hj hac hki (Nat.le_refl _) hc hk

set_option maxRecDepth 100000 in
theorem it_C0 {G : Gx} {C : Cx} {X : Nat → Prop} {am : Nat → Nat} {w : Wd} {kp : Nat} {FJ : Nat → Nat → Int64} {FI : Nat → Nat → Int32} {N : Nat → Nat} {A : Nat → Nat → Int32} {y z : Int32} (hI : Inv0 G X w kp N A w) (hM : LA G am w FJ FI w) (hJ : JJ N A FJ FI) {x10 x11 x12 x13 x14 x15 x16 x17 x18 x19 x20 x21 : Option Value} {c k : Nat} (hc : c ≤ 2400) (hk : k ≤ 14400)  : Go G rm_L_isTold cL_isTold RL ((some .boolean), "isTold", []) C (QP G rm_L_isTold (PV (.int 1) w) C) 317 [some (.ref kp), some (.int y), some (.int z), some (.ref (am 1)), some (.ref (am 2)), some (.ref (am 3)), some (.ref (am 5)), some (.ref (am 6)), some (.ref (am 7)), some (.ref (am 10)), x10, x11, x12, x13, x14, x15, x16, x17, x18, x19, x20, x21] [] w c k := by
  refine g_iload1 dL_isTold_317 ?_
  refine g_iconst (v := 4) dL_isTold_318 (by decide) ?_
  refine g_callS2 (ct_low (m := 4) (by decide) (by decide)) md_L_low dL_isTold_319 ml_L_90 st_L_low (RmOk.of (Nat.le_of_ble_eq_true rfl) (Nat.le_of_ble_eq_true rfl) (Nat.le_of_ble_eq_true rfl) (by (try dsimp only [rm_L_isTold, rm_L_low]); omega) (by (try dsimp only [rm_L_isTold, rm_L_low]); omega)) (kr_V ?_) kx_V
  refine g_istore10 dL_isTold_322 ?_
  refine g_iload1 dL_isTold_324 ?_
  refine g_iconst (v := 3) dL_isTold_325 (by decide) ?_
  refine g_ishr dL_isTold_326 ?_
  refine g_bipush (v := 7) dL_isTold_327 (by decide) ?_
  refine g_callS2 (ct_low (m := 7) (by decide) (by decide)) md_L_low dL_isTold_329 ml_L_90 st_L_low (RmOk.of (Nat.le_of_ble_eq_true rfl) (Nat.le_of_ble_eq_true rfl) (Nat.le_of_ble_eq_true rfl) (by (try dsimp only [rm_L_isTold, rm_L_low]); omega) (by (try dsimp only [rm_L_isTold, rm_L_low]); omega)) (kr_V ?_) kx_V
  refine g_iconst (v := 1) dL_isTold_332 (by decide) ?_
  refine g_isub dL_isTold_333 ?_
  refine g_istore11 dL_isTold_334 ?_
  refine g_iload1 dL_isTold_336 ?_
  refine g_bipush (v := 6) dL_isTold_337 (by decide) ?_
  refine g_ishr dL_isTold_339 ?_
  refine g_iconst (v := 5) dL_isTold_340 (by decide) ?_
  refine g_callS2 (ct_low (m := 5) (by decide) (by decide)) md_L_low dL_isTold_341 ml_L_90 st_L_low (RmOk.of (Nat.le_of_ble_eq_true rfl) (Nat.le_of_ble_eq_true rfl) (Nat.le_of_ble_eq_true rfl) (by (try dsimp only [rm_L_isTold, rm_L_low]); omega) (by (try dsimp only [rm_L_isTold, rm_L_low]); omega)) (kr_V ?_) kx_V
  refine g_iconst (v := 1) dL_isTold_344 (by decide) ?_
  refine g_isub dL_isTold_345 ?_
  refine g_istore12 dL_isTold_346 ?_
  refine g_iload1 dL_isTold_348 ?_
  refine g_sipush (v := 512) dL_isTold_349 (by decide) ?_
  refine g_iand dL_isTold_352 ?_
  refine g_if_ne (tgt := 360) dL_isTold_353 (by decide) (fun h353 => ?_) (fun h353 => ?_)
  · skip
    refine g_iload2 dL_isTold_360 ?_
    refine g_aload9 dL_isTold_361 ?_
    refine g_iconst (v := 0) dL_isTold_363 (by decide) ?_
    refine g_jiald (k := 10) (i := 0) hM (by decide) (by decide) dL_isTold_364 (show _ < 6 from by omega) ?_
    rw [hJ.1.1]
    refine g_iconst (v := 2) dL_isTold_365 (by decide) ?_
    refine g_iadd dL_isTold_366 ?_
    rw [show nI (N 1) + 2 = nI (N 1 + 2) from nI_add _ 2]
    refine g_callS2 (ct_low (m := N 1 + 2) (by omega) (by have := hJ.2.1.1; omega)) md_L_low dL_isTold_367 ml_L_90 st_L_low (RmOk.of (Nat.le_of_ble_eq_true rfl) (Nat.le_of_ble_eq_true rfl) (Nat.le_of_ble_eq_true rfl) (by (try dsimp only [rm_L_isTold, rm_L_low]); omega) (by (try dsimp only [rm_L_isTold, rm_L_low]); omega)) (kr_V ?_) kx_V
    have hl := lowN_lt z (m := N 1 + 2) (by omega)
    exact it_C0a hI hM hJ (lowN_lt _ (by decide)) (lowN_lt _ (by decide)) (lowN_lt _ (by decide)) (by have := hJ.2.1.1; omega) (by (try dsimp only [rm_L_account, rm_L_pages, rm_L_twice, rm_L_copies, rm_L_found, rm_L_read, rm_L_bundle, rm_L_sees, rm_L_low, rm_L_lines, rm_L_at, rm_L_isThere, rm_L_length, rm_X5_isThere, rm_X5_kind, rm_X5_length, rm_X5_documents]); omega) (by (try dsimp only [rm_L_account, rm_L_pages, rm_L_twice, rm_L_copies, rm_L_found, rm_L_read, rm_L_bundle, rm_L_sees, rm_L_low, rm_L_lines, rm_L_at, rm_L_isThere, rm_L_length, rm_X5_isThere, rm_X5_kind, rm_X5_length, rm_X5_documents]); omega)
  · skip
    refine g_iconst (v := 0) dL_isTold_356 (by decide) ?_
    refine g_goto (tgt := 370) dL_isTold_357 (by decide) ?_
    exact it_C0a (x := 0) hI hM hJ (lowN_lt _ (by decide)) (lowN_lt _ (by decide)) (lowN_lt _ (by decide)) (by decide) (by (try dsimp only [rm_L_account, rm_L_pages, rm_L_twice, rm_L_copies, rm_L_found, rm_L_read, rm_L_bundle, rm_L_sees, rm_L_low, rm_L_lines, rm_L_at, rm_L_isThere, rm_L_length, rm_X5_isThere, rm_X5_kind, rm_X5_length, rm_X5_documents]); omega) (by (try dsimp only [rm_L_account, rm_L_pages, rm_L_twice, rm_L_copies, rm_L_found, rm_L_read, rm_L_bundle, rm_L_sees, rm_L_low, rm_L_lines, rm_L_at, rm_L_isThere, rm_L_length, rm_X5_isThere, rm_X5_kind, rm_X5_length, rm_X5_documents]); omega)

