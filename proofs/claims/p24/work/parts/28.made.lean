theorem go_mono {G : Gx} {R : Room} {cc : ByteArray} {own : String} {Y : Yx} {C : Cx} {pc : Nat} {L : List (Option Value)} {st : List Value} {w : Wd} {c k : Nat} {P P' : RV → Wd → Prop} (h : Go G R cc own Y C (QP G R P C) pc L st w c k) (hp : ∀ r w', P r w' → P' r w') : Go G R cc own Y C (QP G R P' C) pc L st w c k := by
  obtain ⟨p, e, s, m, args, below, meth, cd⟩ := C
  intro O H ls locs hR hS hL T hT X
  obtain ⟨t, a1, o, b1, b2, b3⟩ := h O H ls locs hR hS hL T hT X
  refine ⟨t, a1, o, b1, b2, ?_⟩
  rcases b3 with ⟨⟨v, w', g1, g2, g3⟩, g4⟩ | ⟨q, g1, E, ce, Lc, ⟨w', g2, g3⟩, g4⟩
  · exact Or.inl ⟨⟨v, w', g1, hp _ _ g2, g3⟩, g4⟩
  · exact Or.inr ⟨q, g1, E, ce, Lc, ⟨w', hp _ _ g2, g3⟩, g4⟩
/-! The keeper made. -/
/-- made since w0: an object at a, and the new cells of l -/
def CS (w0 : Wd) (B : Nat) (a : Nat) (ea : va_E) (l : List (Nat × va_E)) (w : Wd) : Prop := w a = some ea ∧ (∀ p, p ∈ l → w p.1 = some p.2 ∧ B ≤ p.1 ∧ w0 p.1 = none) ∧ (l.map Prod.fst).Nodup ∧ (∀ b, b ≠ a → b ∉ l.map Prod.fst → w b = w0 b) ∧ w0 a ≠ none
theorem CS.start {w : Wd} {B a : Nat} {ea : va_E} (h : w a = some ea) : CS w B a ea [] w := ⟨h, fun p hp => absurd hp List.not_mem_nil, List.nodup_nil, fun b _ _ => rfl, by rw [h]; intro z; cases z⟩
theorem CS.op {w' : Wd} {w0 : Wd} {B a : Nat} {ea : va_E} {l : List (Nat × va_E)} {P : Wd → Prop} (hC : CS w0 B a ea l w') (h : ∀ w1, CS w0 B a ea l w1 → P w1) : P w' := h _ hC
theorem CS.na {w0 w : Wd} {B a : Nat} {ea : va_E} {l : List (Nat × va_E)} (h : CS w0 B a ea l w) : a ∉ l.map Prod.fst := by
  intro hm
  obtain ⟨p, hp, e⟩ := List.mem_map.mp hm
  exact h.2.2.2.2 (e ▸ (h.2.1 p hp).2.2)
theorem CS.new {w0 w : Wd} {B a q : Nat} {ea e : va_E} {l : List (Nat × va_E)} (h : CS w0 B a ea l w) (qn : w q = none) (qb : B ≤ q) : CS w0 B a ea ((q, e) :: l) (up w q e) := by
  have hqa : a ≠ q := fun z => by rw [← z, h.1] at qn; cases qn
  have hql : q ∉ l.map Prod.fst := by
    intro hm
    obtain ⟨p, hp, e⟩ := List.mem_map.mp hm
    have := (h.2.1 p hp).1
    rw [e, qn] at this
    cases this
  refine ⟨by rw [up_n hqa]; exact h.1, fun p hp => ?_, ?_, fun b hb hbl => ?_, h.2.2.2.2⟩
  · rcases List.mem_cons.mp hp with z | z
    · subst z
      exact ⟨up_s _ _ _, qb, by rw [← h.2.2.2.1 q (fun z => hqa z.symm) hql]; exact qn⟩
    · have hpq : p.1 ≠ q := fun e => hql (e ▸ List.mem_map_of_mem z)
      exact ⟨by rw [up_n hpq]; exact (h.2.1 p z).1, (h.2.1 p z).2⟩
  · show (q :: l.map Prod.fst).Nodup
    exact List.nodup_cons.mpr ⟨hql, h.2.2.1⟩
  · have hbl : b ∉ q :: l.map Prod.fst := hbl
    rw [up_n (show b ≠ q from fun z => hbl (by rw [z]; exact List.mem_cons_self))]
    exact h.2.2.2.1 b hb (fun z => hbl (List.mem_cons_of_mem _ z))
theorem CS.puta {w0 w : Wd} {B a : Nat} {ea : va_E} (ea' : va_E) {l : List (Nat × va_E)} (h : CS w0 B a ea l w) : CS w0 B a ea' l (up w a ea') := by
  refine ⟨up_s _ _ _, fun p hp => ?_, h.2.2.1, fun b hb hbl => by rw [up_n hb]; exact h.2.2.2.1 b hb hbl, h.2.2.2.2⟩
  have : p.1 ≠ a := fun e => h.na (e ▸ List.mem_map_of_mem hp)
  rw [up_n this]
  exact h.2.1 p hp
theorem CS.puth {w0 w : Wd} {B a q : Nat} {ea e : va_E} (e' : va_E) {l : List (Nat × va_E)} (h : CS w0 B a ea ((q, e) :: l) w) : CS w0 B a ea ((q, e') :: l) (up w q e') := by
  have hnd := List.nodup_cons.mp (show (q :: l.map Prod.fst).Nodup from h.2.2.1)
  have hqa : a ≠ q := fun z => h.na (z ▸ List.mem_cons_self)
  refine ⟨by rw [up_n hqa]; exact h.1, fun p hp => ?_, h.2.2.1, fun b hb hbl => ?_, h.2.2.2.2⟩
  · rcases List.mem_cons.mp hp with z | z
    · subst z
      exact ⟨up_s _ _ _, (h.2.1 _ List.mem_cons_self).2⟩
    · have hpq : p.1 ≠ q := fun e => hnd.1 (e ▸ List.mem_map_of_mem z)
      rw [up_n hpq]
      exact h.2.1 p (List.mem_cons_of_mem _ z)
  · have hbl : b ∉ q :: l.map Prod.fst := hbl
    rw [up_n (show b ≠ q from fun z => hbl (by rw [z]; exact List.mem_cons_self))]
    exact h.2.2.2.1 b hb hbl
def pos0 (k i : Nat) : Nat := match k with
  | 0 => 0 | 1 => 1 | 3 => 2 + i | 5 => 7 | 6 => 8 | 7 => 9 | 10 => 10 | _ => 11
def inv0 : Nat → Nat × Nat
  | 0 => (0, 0) | 1 => (1, 0) | 2 => (3, 0) | 3 => (3, 1) | 4 => (3, 2) | 5 => (3, 3) | 6 => (3, 4) | 7 => (5, 0) | 8 => (6, 0) | 9 => (7, 0) | 10 => (10, 0) | _ => (11, 0)
def nn0 : Nat → Nat
  | 0 => 1 | 1 => 1 | 3 => 5 | 4 => 5 | 5 => 1 | 6 => 1 | 7 => 1 | 10 => 1 | 11 => 1 | _ => 0
def S0 (ad : Nat → Nat → Nat) : KS := (ad, nn0, fun _ => 0, fun _ => 0, fun _ => 0, 0, 0, fun _ _ => 0, fun _ => 0, fun _ => 0, 0, 0, fun _ => 0, fun _ => 1, fun _ _ => 0, fun _ => 0, fun _ _ => 0, fun _ _ => 0, fun _ => 0, fun _ => 0)
def ad0 (as : List Nat) (k i : Nat) : Nat := as.getD (pos0 k i) 0
/-- the tags of the start, one by one -/
theorem lv0 {ad : Nat → Nat → Nat} {P : Nat → Nat → Prop} (h0 : P 0 0) (h1 : P 1 0) (h30 : P 3 0) (h31 : P 3 1) (h32 : P 3 2) (h33 : P 3 3) (h34 : P 3 4) (h5 : P 5 0) (h6 : P 6 0) (h7 : P 7 0) (h10 : P 10 0) (h11 : P 11 0) : ∀ k i, Lv (S0 ad) k i → P k i := by
  intro k i ⟨hk, hi, h4⟩
  have hi : i < nn0 k := hi
  have h4 : k = 4 → (0 : Nat) ≠ 0 := h4
  match k, hk, hi, h4 with
  | 0, _, hi, _ => obtain rfl : i = 0 := Nat.lt_one_iff.mp hi; exact h0
  | 1, _, hi, _ => obtain rfl : i = 0 := Nat.lt_one_iff.mp hi; exact h1
  | 2, _, hi, _ => exact absurd hi (Nat.not_lt_zero _)
  | 3, _, hi, _ =>
    have hi : i < 5 := hi
    match i, hi with
    | 0, _ => exact h30
    | 1, _ => exact h31
    | 2, _ => exact h32
    | 3, _ => exact h33
    | 4, _ => exact h34
    | n + 5, hi => exact absurd hi (by omega)
  | 4, _, _, h4 => exact absurd rfl (h4 rfl)
  | 5, _, hi, _ => obtain rfl : i = 0 := Nat.lt_one_iff.mp hi; exact h5
  | 6, _, hi, _ => obtain rfl : i = 0 := Nat.lt_one_iff.mp hi; exact h6
  | 7, _, hi, _ => obtain rfl : i = 0 := Nat.lt_one_iff.mp hi; exact h7
  | 8, _, hi, _ => exact absurd hi (Nat.not_lt_zero _)
  | 9, _, hi, _ => exact absurd hi (Nat.not_lt_zero _)
  | 10, _, hi, _ => obtain rfl : i = 0 := Nat.lt_one_iff.mp hi; exact h10
  | 11, _, hi, _ => obtain rfl : i = 0 := Nat.lt_one_iff.mp hi; exact h11
  | n + 12, hk, _, _ => exact absurd hk (by omega)
theorem cl0 (ad : Nat → Nat → Nat) : Cl (S0 ad) := by
  refine ⟨⟨rfl, rfl, rfl, rfl⟩, rfl, Nat.le_refl _, Nat.le_refl _, Nat.one_pos, Nat.one_pos, fun l i _ hi => absurd hi (Nat.not_lt_zero _), fun d hd => absurd hd (Nat.not_lt_zero _), fun l _ => ⟨Nat.le_refl _, Or.inl rfl⟩⟩
theorem nodup_getD {l : List Nat} (h : l.Nodup) {i j : Nat} (hi : i < l.length) (hj : j < l.length) (e : l.getD i 0 = l.getD j 0) : i = j := by
  rw [List.getD_eq_getElem?_getD, List.getD_eq_getElem?_getD, List.getElem?_eq_getElem hi, List.getElem?_eq_getElem hj] at e
  have h2 := List.pairwise_iff_getElem.mp h
  rcases Nat.lt_trichotomy i j with z | z | z
  · exact absurd e (h2 i j hi hj z)
  · exact z
  · exact absurd e.symm (h2 j i hj hi z)

theorem q_ne_I {G : Gx} {n m : Nat} {f : Nat → Option Nat} {g : Nat → Int32} : some (eQ G n f) ≠ some (eI G m g) := by
  intro h
  simp only [Option.some.injEq, Sum.inl.injEq, Prod.mk.injEq] at h
  exact nomatch h.2.2
theorem q_ne_Z {G : Gx} {n m : Nat} {f : Nat → Option Nat} {g : Nat → Int32} : some (eQ G n f) ≠ some (eZ G m g) := by
  intro h
  simp only [Option.some.injEq, Sum.inl.injEq, Prod.mk.injEq] at h
  exact nomatch h.2.2
theorem Kl.ofCS {G : Gx} {X : Nat → Prop} {w w1 : Wd} {a q1 q2 q3 q5 q5l q6 q6v q7 q8 q9 q10 : Nat} (hC : CS w (gH G).size a (eO 6 [.int 0, .ref q1, .ref q2, .ref q3, .int 0, .ref q5, .ref q6, .ref q7, .ref q8, .ref q9, .ref q10]) [(q10, eZ G 100 (fun _ => 0)), (q9, eI G 4 (fun _ => 0)), (q8, eLs 0 (gE G) 0), (q7, eLs 0 (gE G) 0), (q6, ePg q6v 0 1), (q6v, eI G 8 (fun _ => 0)), (q5, eRn q5l 0), (q5l, eLs 0 (gE G) 0), (q3, eLs 0 (gE G) 0), (q2, eLs 0 (gE G) 0), (q1, eFm 0 0 1)] w1) (hE : X (gE G) ∧ w (gE G) = some (eQ G 0 (fun _ => none))) (hX : ∀ x, X x → w x ≠ none ∧ x ≠ a) (hab : (gH G).size ≤ a) : Kl G X w (S0 (ad0 [a, q1, q2, q3, q7, q8, q5l, q5, q6, q6v, q9, q10])) w1 := by
  have hnd : ([a, q1, q2, q3, q7, q8, q5l, q5, q6, q6v, q9, q10]).Nodup := by
    have h1 : (a :: ([(q10, eZ G 100 (fun _ => 0)), (q9, eI G 4 (fun _ => 0)), (q8, eLs 0 (gE G) 0), (q7, eLs 0 (gE G) 0), (q6, ePg q6v 0 1), (q6v, eI G 8 (fun _ => 0)), (q5, eRn q5l 0), (q5l, eLs 0 (gE G) 0), (q3, eLs 0 (gE G) 0), (q2, eLs 0 (gE G) 0), (q1, eFm 0 0 1)]).map Prod.fst).Nodup := List.nodup_cons.mpr ⟨hC.na, hC.2.2.1⟩
    refine List.Nodup.perm h1 ?_
    show List.Perm [a, q10, q9, q8, q7, q6, q6v, q5, q5l, q3, q2, q1] [a, q1, q2, q3, q7, q8, q5l, q5, q6, q6v, q9, q10]
    refine List.Perm.cons _ ?_
    rw [List.perm_iff_count]
    intro b
    simp only [List.count_cons, List.count_nil]
    omega
  have hat : ∀ k i, Lv (S0 (ad0 [a, q1, q2, q3, q7, q8, q5l, q5, q6, q6v, q9, q10])) k i → w1 (ad0 [a, q1, q2, q3, q7, q8, q5l, q5, q6, q6v, q9, q10] k i) = some (kc G (S0 (ad0 [a, q1, q2, q3, q7, q8, q5l, q5, q6, q6v, q9, q10])) k i) ∧ (gH G).size ≤ ad0 [a, q1, q2, q3, q7, q8, q5l, q5, q6, q6v, q9, q10] k i ∧ inv0 (pos0 k i) = (k, i) ∧ pos0 k i < 12 ∧ (ad0 [a, q1, q2, q3, q7, q8, q5l, q5, q6, q6v, q9, q10] k i = a ∨ w (ad0 [a, q1, q2, q3, q7, q8, q5l, q5, q6, q6v, q9, q10] k i) = none) :=
    lv0 ⟨hC.1, hab, rfl, by decide, Or.inl rfl⟩ ⟨(hC.2.1 _ (List.mem_of_getElem? (i := 10) rfl)).1, (hC.2.1 _ (List.mem_of_getElem? (i := 10) rfl)).2.1, rfl, by decide, Or.inr (hC.2.1 _ (List.mem_of_getElem? (i := 10) rfl)).2.2⟩ ⟨(hC.2.1 _ (List.mem_of_getElem? (i := 9) rfl)).1, (hC.2.1 _ (List.mem_of_getElem? (i := 9) rfl)).2.1, rfl, by decide, Or.inr (hC.2.1 _ (List.mem_of_getElem? (i := 9) rfl)).2.2⟩ ⟨(hC.2.1 _ (List.mem_of_getElem? (i := 8) rfl)).1, (hC.2.1 _ (List.mem_of_getElem? (i := 8) rfl)).2.1, rfl, by decide, Or.inr (hC.2.1 _ (List.mem_of_getElem? (i := 8) rfl)).2.2⟩ ⟨(hC.2.1 _ (List.mem_of_getElem? (i := 3) rfl)).1, (hC.2.1 _ (List.mem_of_getElem? (i := 3) rfl)).2.1, rfl, by decide, Or.inr (hC.2.1 _ (List.mem_of_getElem? (i := 3) rfl)).2.2⟩ ⟨(hC.2.1 _ (List.mem_of_getElem? (i := 2) rfl)).1, (hC.2.1 _ (List.mem_of_getElem? (i := 2) rfl)).2.1, rfl, by decide, Or.inr (hC.2.1 _ (List.mem_of_getElem? (i := 2) rfl)).2.2⟩ ⟨(hC.2.1 _ (List.mem_of_getElem? (i := 7) rfl)).1, (hC.2.1 _ (List.mem_of_getElem? (i := 7) rfl)).2.1, rfl, by decide, Or.inr (hC.2.1 _ (List.mem_of_getElem? (i := 7) rfl)).2.2⟩ ⟨(hC.2.1 _ (List.mem_of_getElem? (i := 6) rfl)).1, (hC.2.1 _ (List.mem_of_getElem? (i := 6) rfl)).2.1, rfl, by decide, Or.inr (hC.2.1 _ (List.mem_of_getElem? (i := 6) rfl)).2.2⟩ ⟨(hC.2.1 _ (List.mem_of_getElem? (i := 4) rfl)).1, (hC.2.1 _ (List.mem_of_getElem? (i := 4) rfl)).2.1, rfl, by decide, Or.inr (hC.2.1 _ (List.mem_of_getElem? (i := 4) rfl)).2.2⟩ ⟨(hC.2.1 _ (List.mem_of_getElem? (i := 5) rfl)).1, (hC.2.1 _ (List.mem_of_getElem? (i := 5) rfl)).2.1, rfl, by decide, Or.inr (hC.2.1 _ (List.mem_of_getElem? (i := 5) rfl)).2.2⟩ ⟨(hC.2.1 _ (List.mem_of_getElem? (i := 1) rfl)).1, (hC.2.1 _ (List.mem_of_getElem? (i := 1) rfl)).2.1, rfl, by decide, Or.inr (hC.2.1 _ (List.mem_of_getElem? (i := 1) rfl)).2.2⟩ ⟨(hC.2.1 _ (List.mem_of_getElem? (i := 0) rfl)).1, (hC.2.1 _ (List.mem_of_getElem? (i := 0) rfl)).2.1, rfl, by decide, Or.inr (hC.2.1 _ (List.mem_of_getElem? (i := 0) rfl)).2.2⟩
  have hinj : ∀ k i k' i', Lv (S0 (ad0 [a, q1, q2, q3, q7, q8, q5l, q5, q6, q6v, q9, q10])) k i → Lv (S0 (ad0 [a, q1, q2, q3, q7, q8, q5l, q5, q6, q6v, q9, q10])) k' i' → ad0 [a, q1, q2, q3, q7, q8, q5l, q5, q6, q6v, q9, q10] k i = ad0 [a, q1, q2, q3, q7, q8, q5l, q5, q6, q6v, q9, q10] k' i' → k = k' ∧ i = i' := by
    intro k i k' i' h1 h2 e
    have e2 := nodup_getD hnd (hat k i h1).2.2.2.1 (hat k' i' h2).2.2.2.1 e
    have e3 := (hat k i h1).2.2.1
    rw [e2, (hat k' i' h2).2.2.1] at e3
    exact ⟨(congrArg Prod.fst e3).symm, (congrArg Prod.snd e3).symm⟩
  refine ⟨fun k i hl => (hat k i hl).1, hinj, fun k i hl => (hat k i hl).2.1, fun x hx => ⟨?_, (hX x hx).1, fun k i hl e => ?_⟩, hE, cl0 _⟩
  · refine hC.2.2.2.1 x (hX x hx).2 (fun hm => ?_)
    obtain ⟨p, hp, e⟩ := List.mem_map.mp hm
    have h9 := (hC.2.1 p hp).2.2
    rw [e] at h9
    exact (hX x hx).1 h9
  · rcases (hat k i hl).2.2.2.2 with z | z
    · exact (hX x hx).2 (e.symm.trans z)
    · rw [show ad0 [a, q1, q2, q3, q7, q8, q5l, q5, q6, q6v, q9, q10] k i = x from e] at z
      exact (hX x hx).1 z

theorem ct_X3_init2 {G : Gx} {w : Wd} {q : Nat} {lk : Bool} {z : Int32} (hz : z = bI lk) (hq : w q = some (eRd 0 0 0 0)) (hb : (gH G).size ≤ q) : Ct G yX3_init kw_X3_init rm_X3_init [.ref q, .int z] w (PN (fun w' => w' = up w q (eRd (bI lk) 0 99 (-1)))) := by subst hz; exact ct_X3_init hq hb
def rdT (S : KS) : Nat → KS
  | 0 => S
  | i + 1 => (((rdT S i).snn (updN (rdT S i).nn 9 ((rdT S i).nn 9 + 1))).srd (updF (rdT S i).rd ((rdT S i).nn 9) (f5 (bI (decide (i = 0))) 0 99 (-1) 0))).sln (updN (rdT S i).ln 3 ((rdT S i).ln 3 + 1))

abbrev rm_X5_init : Room := { frames := 7, cells := 60, slots := 1600, locals := 191 }

theorem Kl.pSpA {G : Gx} {X : Nat → Prop} {w0 w : Wd} {S : KS} (hK : Kl G X w0 S w) (g : Nat → Int32) : Kl G X w0 (S.ssp g) (up w (S.ad 10 0) (eI G 4 g)) :=
  hK.put (S.ssp g) 10 0 hK.l10 rfl rfl rfl hK.cl (fun k1 i1 hl1 hn1 => match k1, hl1, hn1 with
    | 0, hl1, hn1 => ⟨rfl, rfl, rfl, rfl⟩
    | 1, hl1, hn1 => trivial
    | 2, hl1, hn1 => rfl
    | 3, hl1, hn1 => ⟨rfl, rfl, rfl⟩
    | 4, hl1, hn1 => ⟨rfl, rfl, fun _ _ => rfl⟩
    | 5, hl1, hn1 => rfl
    | 6, hl1, hn1 => ⟨rfl, rfl⟩
    | 7, hl1, hn1 => rfl
    | 8, hl1, hn1 => ⟨rfl, rfl⟩
    | 9, hl1, hn1 => rfl
    | 10, hl1, hn1 => absurd (by have h9 : i1 < S.nn 10 := hl1.2.1; rw [hK.cl.c0.2.2.1] at h9; omega) (hn1 rfl)
    | n + 11, hl1, hn1 => rfl)
theorem rdT_v1 {S T : KS} (h : S.v = T.v) (i : Nat) : ((((S.snn (updN S.nn 9 (S.nn 9 + 1))).srd (updF S.rd (S.nn 9) (f5 (bI (decide (i = 0))) 0 99 (-1) 0))).sln (updN S.ln 3 (S.ln 3 + 1)))).v = ((((T.snn (updN T.nn 9 (T.nn 9 + 1))).srd (updF T.rd (T.nn 9) (f5 (bI (decide (i = 0))) 0 99 (-1) 0))).sln (updN T.ln 3 (T.ln 3 + 1)))).v := by
  rw [show ((((S.snn (updN S.nn 9 (S.nn 9 + 1))).srd (updF S.rd (S.nn 9) (f5 (bI (decide (i = 0))) 0 99 (-1) 0))).sln (updN S.ln 3 (S.ln 3 + 1)))).v = ((((S.v.snn (updN S.v.nn 9 (S.v.nn 9 + 1))).srd (updF S.v.rd (S.v.nn 9) (f5 (bI (decide (i = 0))) 0 99 (-1) 0))).sln (updN S.v.ln 3 (S.v.ln 3 + 1)))).v from rfl, h]; rfl
set_option maxRecDepth 100000 in
theorem lp_init {G : Gx} {X : Nat → Prop} {w0 : Wd} {S : KS} (C : Cx) : ∀ (M : Nat) (i : Nat) (w1 : Wd) (S1 : KS) (c : Nat) (k : Nat), 4 - i < M → i ≤ 4 → Kl G X w0 S1 w1 → S1.v = (rdT S i).v → S1.ad 0 0 = S.ad 0 0 → S1.nn 9 = i → S1.ln 3 = i → S1.nn 3 = 5 → c ≤ 20 + 2 * i → k ≤ 250 + 30 * i + 4 * S1.cp 3 →
    Go G rm_X5_init cX5_init RX5 (none, "<init>", []) C (QP G rm_X5_init (PN (fun w' => ∃ S', Kl G X w0 S' w' ∧ S'.ad 0 0 = S.ad 0 0 ∧ ∃ g, (∀ j, j < 4 → g j = 100) ∧ S'.v = ((rdT S 4).ssp g).v)) C) 101 [some (.ref (S1.ad 0 0)), some (.int (nI i))] [] w1 c k := by
  intro M
  induction M with
  | zero => intro i w1 S1 c k hM9; exact absurd hM9 (Nat.not_lt_zero _)
  | succ M ih =>
    intro i w1 S1 c k hM9 hi hK1 hv ha hn9 hl3 h35 hc hk
    have hcp0 := hK1.cl.cp 3 (by omega)
    refine g_iload1 dX5_init_101 ?_
    refine g_iconst (v := 4) dX5_init_102 (by decide) ?_
    refine g_icmp_ge (tgt := 136) dX5_init_103 (by decide) (fun h103 => ?_) (fun h103 => ?_)
    · skip
      refine g_aload0 dX5_init_136 ?_
      refine g_getf kc6 dX5_init_137 fl_X5_48 (by decide) hK1.g0 rfl ?_
      refine g_bipush (v := 100) dX5_init_140 (by decide) ?_
      refine g_callS2 (ct_fill hK1.g10 (hK1.base 10 0 hK1.l10) (by decide)) md_J7_fill_53178 dX5_init_142 ml_X5_65 st_J7_fill_53178 (RmOk.of (Nat.le_of_ble_eq_true rfl) (Nat.le_of_ble_eq_true rfl) (Nat.le_of_ble_eq_true rfl) (by (try dsimp only [rm_X5_init, rm_J7_fill_53178]); omega) (by (try dsimp only [rm_X5_init, rm_J7_fill_53178]); omega)) (kr_N (fun w1 hw1 => ?_)) kx_N
      obtain ⟨⟨g, hg1, hg2⟩, hg3⟩ := hw1
      have hw9 := up_of hg1 hg3
      subst hw9
      have hK2 := hK1.pSpA g
      refine g_vret dX5_init_145 ?_ (by (try dsimp only [rm_X5_init, rm_J7_fill_53178]); omega) (by (try dsimp only [rm_X5_init, rm_J7_fill_53178]); omega)
      have h4 : i = 4 := by have := idx_ge (i := i) (n := 4) (by omega) (by omega) h103; omega
      subst h4
      exact ⟨rfl, _, hK2, ha, g, hg2, (show (S1.ssp g).v = ((rdT S 4).ssp g).v by rw [show (S1.ssp g).v = (S1.v.ssp g).v from rfl, hv]; rfl)⟩
    · skip
      have hlt : i < 4 := idx_lt (n := 4) (by omega) (by omega) h103
      refine g_aload0 dX5_init_106 ?_
      refine g_getf kc6 dX5_init_107 fl_X5_45 (by decide) hK1.g0 rfl ?_
      refine g_new (fs := [.int 0, .int 0, .int 0, .int 0]) kc4 dX5_init_110 cl_X5_56 ins_X3 ini_X3 (by intro j hj; rcases (show j = 0 ∨ j = 1 ∨ j = 2 ∨ j = 3 by omega) with rfl | rfl | rfl | rfl <;> rfl) (by (try dsimp only [rm_X5_init, rm_J7_fill_53178]); omega) (by (try dsimp only [rm_X5_init, rm_J7_fill_53178]); omega) (fun q qn qb => ?_)
      refine g_dup dX5_init_113 rfl ?_
      refine g_iload1 dX5_init_114 ?_
      refine g_if_ne (tgt := 122) dX5_init_115 (by decide) (fun h115 => ?_) (fun h115 => ?_)
      · skip
        refine g_iconst (v := 0) dX5_init_122 (by decide) ?_
        refine g_callIN1 (ct_X3_init2 (lk := decide (i = 0)) (by first | rw [decide_eq_true (show i = 0 by exact (nI_eq (b := 0) (by omega) (by decide)).mp h115)]; rfl | rw [decide_eq_false (show ¬ i = 0 by intro z; exact h115 (by rw [z]; rfl))]; rfl) (up_s _ _ _) qb) md_X3_init dX5_init_123 ml_X5_58 rfl im_X3_init (RmOk.of (Nat.le_of_ble_eq_true rfl) (Nat.le_of_ble_eq_true rfl) (Nat.le_of_ble_eq_true rfl) (by (try dsimp only [rm_X5_init, rm_J7_fill_53178, rm_X3_init]); omega) (by (try dsimp only [rm_X5_init, rm_J7_fill_53178, rm_X3_init]); omega)) (kr_N (fun w1 hw1 => ?_)) kn_N
        rw [up_up] at hw1
        subst hw1
        have hK2 := hK1.newR qn qb (bI (decide (i = 0))) 0 99 (-1)
        have hr23 : 3 < ((S1.one 9 q).srd (updF S1.rd (S1.nn 9) (f5 (bI (decide (i = 0))) 0 99 (-1) 0))).nn 3 := by show 3 < updN S1.nn 9 (S1.nn 9 + 1) 3; rw [updN_n (by decide)]; omega
        have hcp := hK1.cl.cp 3 (by omega)
        have hva : q = elK ((S1.one 9 q).srd (updF S1.rd (S1.nn 9) (f5 (bI (decide (i = 0))) 0 99 (-1) 0))) 3 (S1.ln 3) := by
          show q = ad2 S1.ad 9 (S1.nn 9) q 9 (S1.ln 3)
          rw [hl3, hn9, ad2_s]
        have hgs := gslot_le hcp.1 hcp.2 (show S1.ln 3 ≤ 120 by omega)
        refine g_callV1 kc0 (hK2.ctAddQ (nl := gslot (S1.ln 3) (S1.cp 3)) hr23 (show S1.ln 3 ≤ 120 by omega) hva (by show S1.ln 3 < updN S1.nn 9 (S1.nn 9 + 1) 9; rw [updN_s]; omega) (Nat.le_refl _)) md_Jx4a65c_add_9ea2d dX5_init_126 ml_X5_61 im_Jx4a65c_add_9ea2d se_Jx4a65c_add_9ea2d (hK2.g3 (i := 3) hr23) (RmOk.of (Nat.le_of_ble_eq_true rfl) (Nat.le_of_ble_eq_true rfl) (Nat.le_of_ble_eq_true rfl) (by (try dsimp only [rm_X5_init, rm_J7_fill_53178, rm_X3_init, rm_Jx4a65c_add_9ea2d]); omega) (by (try dsimp only [rm_X5_init, rm_J7_fill_53178, rm_X3_init, rm_Jx4a65c_add_9ea2d]); omega)) (kr_B (fun w1 hw1 => ?_)) kx_B
        obtain ⟨dd, cap, hK3, hcap⟩ := hw1
        have hcap : gslot (S1.ln 3) (S1.cp 3) + 4 * S1.cp 3 ≤ 4 * cap := hcap
        refine g_pop dX5_init_129 rfl ?_
        refine g_iinc1 (v' := (nI (i + 1))) dX5_init_130 (nI_1 i) ?_
        refine g_goto (tgt := 101) dX5_init_133 (by decide) ?_
        refine ih (i + 1) _ (((S1.one 9 q).srd (updF S1.rd (S1.nn 9) (f5 (bI (decide (i = 0))) 0 99 (-1) 0))).app 3 dd cap) _ _ (by omega) (by omega) hK3 ((rdT_v1 hv i : _)) ha ?_ ?_ ?_ ?_ ?_
        · show updN S1.nn 9 (S1.nn 9 + 1) 9 = i + 1
          rw [updN_s]; omega
        · show updN S1.ln 3 (S1.ln 3 + 1) 3 = i + 1
          rw [updN_s]; omega
        · show updN S1.nn 9 (S1.nn 9 + 1) 3 = 5
          rw [updN_n (by decide)]; exact h35
        · (try dsimp only [rm_X3_init, rm_Jx4a65c_add_9ea2d]); omega
        · show _ ≤ 250 + 30 * (i + 1) + 4 * updN S1.cp 3 cap 3
          rw [updN_s]
          (try dsimp only [rm_X3_init, rm_Jx4a65c_add_9ea2d]); omega
      · skip
        refine g_iconst (v := 1) dX5_init_118 (by decide) ?_
        refine g_goto (tgt := 123) dX5_init_119 (by decide) ?_
        refine g_callIN1 (ct_X3_init2 (lk := decide (i = 0)) (by first | rw [decide_eq_true (show i = 0 by exact (nI_eq (b := 0) (by omega) (by decide)).mp h115)]; rfl | rw [decide_eq_false (show ¬ i = 0 by intro z; exact h115 (by rw [z]; rfl))]; rfl) (up_s _ _ _) qb) md_X3_init dX5_init_123 ml_X5_58 rfl im_X3_init (RmOk.of (Nat.le_of_ble_eq_true rfl) (Nat.le_of_ble_eq_true rfl) (Nat.le_of_ble_eq_true rfl) (by (try dsimp only [rm_X5_init, rm_J7_fill_53178, rm_X3_init, rm_Jx4a65c_add_9ea2d]); omega) (by (try dsimp only [rm_X5_init, rm_J7_fill_53178, rm_X3_init, rm_Jx4a65c_add_9ea2d]); omega)) (kr_N (fun w1 hw1 => ?_)) kn_N
        rw [up_up] at hw1
        subst hw1
        have hK2 := hK1.newR qn qb (bI (decide (i = 0))) 0 99 (-1)
        have hr23 : 3 < ((S1.one 9 q).srd (updF S1.rd (S1.nn 9) (f5 (bI (decide (i = 0))) 0 99 (-1) 0))).nn 3 := by show 3 < updN S1.nn 9 (S1.nn 9 + 1) 3; rw [updN_n (by decide)]; omega
        have hcp := hK1.cl.cp 3 (by omega)
        have hva : q = elK ((S1.one 9 q).srd (updF S1.rd (S1.nn 9) (f5 (bI (decide (i = 0))) 0 99 (-1) 0))) 3 (S1.ln 3) := by
          show q = ad2 S1.ad 9 (S1.nn 9) q 9 (S1.ln 3)
          rw [hl3, hn9, ad2_s]
        have hgs := gslot_le hcp.1 hcp.2 (show S1.ln 3 ≤ 120 by omega)
        refine g_callV1 kc0 (hK2.ctAddQ (nl := gslot (S1.ln 3) (S1.cp 3)) hr23 (show S1.ln 3 ≤ 120 by omega) hva (by show S1.ln 3 < updN S1.nn 9 (S1.nn 9 + 1) 9; rw [updN_s]; omega) (Nat.le_refl _)) md_Jx4a65c_add_9ea2d dX5_init_126 ml_X5_61 im_Jx4a65c_add_9ea2d se_Jx4a65c_add_9ea2d (hK2.g3 (i := 3) hr23) (RmOk.of (Nat.le_of_ble_eq_true rfl) (Nat.le_of_ble_eq_true rfl) (Nat.le_of_ble_eq_true rfl) (by (try dsimp only [rm_X5_init, rm_J7_fill_53178, rm_X3_init, rm_Jx4a65c_add_9ea2d]); omega) (by (try dsimp only [rm_X5_init, rm_J7_fill_53178, rm_X3_init, rm_Jx4a65c_add_9ea2d]); omega)) (kr_B (fun w1 hw1 => ?_)) kx_B
        obtain ⟨dd, cap, hK3, hcap⟩ := hw1
        have hcap : gslot (S1.ln 3) (S1.cp 3) + 4 * S1.cp 3 ≤ 4 * cap := hcap
        refine g_pop dX5_init_129 rfl ?_
        refine g_iinc1 (v' := (nI (i + 1))) dX5_init_130 (nI_1 i) ?_
        refine g_goto (tgt := 101) dX5_init_133 (by decide) ?_
        refine ih (i + 1) _ (((S1.one 9 q).srd (updF S1.rd (S1.nn 9) (f5 (bI (decide (i = 0))) 0 99 (-1) 0))).app 3 dd cap) _ _ (by omega) (by omega) hK3 ((rdT_v1 hv i : _)) ha ?_ ?_ ?_ ?_ ?_
        · show updN S1.nn 9 (S1.nn 9 + 1) 9 = i + 1
          rw [updN_s]; omega
        · show updN S1.ln 3 (S1.ln 3 + 1) 3 = i + 1
          rw [updN_s]; omega
        · show updN S1.nn 9 (S1.nn 9 + 1) 3 = 5
          rw [updN_n (by decide)]; exact h35
        · (try dsimp only [rm_X3_init, rm_Jx4a65c_add_9ea2d]); omega
        · show _ ≤ 250 + 30 * (i + 1) + 4 * updN S1.cp 3 cap 3
          rw [updN_s]
          (try dsimp only [rm_X3_init, rm_Jx4a65c_add_9ea2d]); omega

set_option maxRecDepth 100000 in
theorem kt_init {G : Gx} {X : Nat → Prop} {w : Wd} {a : Nat} (hw : w a = some (eO 6 [.int 0, .null, .null, .null, .int 0, .null, .null, .null, .null, .null, .null])) (hb : (gH G).size ≤ a) (hE : X (gE G) ∧ w (gE G) = some (eQ G 0 (fun _ => none))) (hX : ∀ x, X x → w x ≠ none ∧ x ≠ a) : Ct G yX5_init kw_X5_init rm_X5_init [.ref a] w (PN (fun w' => ∃ S', Kl G X w S' w' ∧ S'.ad 0 0 = a ∧ ∃ g, (∀ j, j < 4 → g j = 100) ∧ S'.v = ((rdT (S0 (fun _ _ => 0)) 4).ssp g).v)) := by
  have hC := CS.start (B := (gH G).size) hw
  refine ct_intro RX5 "<init>" (by decide +kernel) rfl rfl rfl (Nat.le_of_ble_eq_true rfl) [some (.ref a), none] rfl (fun C => ?_)
  refine g_aload0 dX5_init_0 ?_
  refine g_objInit dX5_init_1 ml_X5_3 im_oi cd_oi (Nat.le_of_ble_eq_true rfl) (Nat.le_of_ble_eq_true rfl) ?_
  refine g_aload0 dX5_init_4 ?_
  refine g_new (fs := [.int 0, .int 0, .int 0]) kc2 dX5_init_5 cl_X5_9 ins_X1 ini_X1 (by intro j hj; rcases (show j = 0 ∨ j = 1 ∨ j = 2 by omega) with rfl | rfl | rfl <;> rfl) (Nat.le_of_ble_eq_true rfl) (Nat.le_of_ble_eq_true rfl) (fun q1 q1n q1b => ?_)
  refine g_dup dX5_init_8 rfl ?_
  refine g_iconst (v := 0) dX5_init_9 (by decide) ?_
  refine g_iconst (v := 0) dX5_init_10 (by decide) ?_
  refine g_iconst (v := 1) dX5_init_11 (by decide) ?_
  refine g_callIN3 (ct_X1_init (up_s _ _ _) q1b) md_X1_init dX5_init_12 ml_X5_11 rfl im_X1_init (RmOk.of (Nat.le_of_ble_eq_true rfl) (Nat.le_of_ble_eq_true rfl) (Nat.le_of_ble_eq_true rfl) (Nat.le_of_ble_eq_true rfl) (Nat.le_of_ble_eq_true rfl)) (kr_N (fun w1 hw1 => ?_)) kn_N
  rw [up_up] at hw1
  subst hw1
  refine CS.op (P := fun w9 => Go _ _ _ _ _ _ _ _ _ _ w9 _ _) (hC.new q1n q1b) (fun w9 hC => ?_)
  refine g_putF (fs' := [.int 0, .ref q1, .null, .null, .int 0, .null, .null, .null, .null, .null, .null]) kc6 dX5_init_15 fw_X5_14 (by decide) rfl rfl hC.1 hb rfl rfl (Nat.le_of_ble_eq_true rfl) rfl ?_
  refine CS.op (P := fun w9 => Go _ _ _ _ _ _ _ _ _ _ w9 _ _) (hC.puta _) (fun w9 hC => ?_)
  refine g_aload0 dX5_init_18 ?_
  refine g_new (fs := [.int 0, .null, .int 0]) kc0 dX5_init_19 cl_X5_18 ins_Jx4a65c ini_Jx4a65c (by intro j hj; rcases (show j = 0 ∨ j = 1 ∨ j = 2 by omega) with rfl | rfl | rfl <;> rfl) (Nat.le_of_ble_eq_true rfl) (Nat.le_of_ble_eq_true rfl) (fun q2 q2n q2b => ?_)
  refine g_dup dX5_init_22 rfl ?_
  refine g_callI0 (ct_arl_init (up_s _ _ _) q2b) md_Jx4a65c_init_da8c8 dX5_init_23 ml_X5_20 rfl im_Jx4a65c_init_da8c8 (RmOk.of (Nat.le_of_ble_eq_true rfl) (Nat.le_of_ble_eq_true rfl) (Nat.le_of_ble_eq_true rfl) (Nat.le_of_ble_eq_true rfl) (Nat.le_of_ble_eq_true rfl)) (kr_N (fun w1 hw1 => ?_)) kn_N
  have hw9 := up_of hw1.1 hw1.2
  rw [up_up] at hw9
  subst hw9
  refine CS.op (P := fun w9 => Go _ _ _ _ _ _ _ _ _ _ w9 _ _) (hC.new q2n q2b) (fun w9 hC => ?_)
  refine g_putF (fs' := [.int 0, .ref q1, .ref q2, .null, .int 0, .null, .null, .null, .null, .null, .null]) kc6 dX5_init_26 fw_X5_21 (by decide) rfl rfl hC.1 hb rfl rfl (Nat.le_of_ble_eq_true rfl) rfl ?_
  refine CS.op (P := fun w9 => Go _ _ _ _ _ _ _ _ _ _ w9 _ _) (hC.puta _) (fun w9 hC => ?_)
  refine g_aload0 dX5_init_29 ?_
  refine g_new (fs := [.int 0, .null, .int 0]) kc0 dX5_init_30 cl_X5_18 ins_Jx4a65c ini_Jx4a65c (by intro j hj; rcases (show j = 0 ∨ j = 1 ∨ j = 2 by omega) with rfl | rfl | rfl <;> rfl) (Nat.le_of_ble_eq_true rfl) (Nat.le_of_ble_eq_true rfl) (fun q3 q3n q3b => ?_)
  refine g_dup dX5_init_33 rfl ?_
  refine g_callI0 (ct_arl_init (up_s _ _ _) q3b) md_Jx4a65c_init_da8c8 dX5_init_34 ml_X5_20 rfl im_Jx4a65c_init_da8c8 (RmOk.of (Nat.le_of_ble_eq_true rfl) (Nat.le_of_ble_eq_true rfl) (Nat.le_of_ble_eq_true rfl) (Nat.le_of_ble_eq_true rfl) (Nat.le_of_ble_eq_true rfl)) (kr_N (fun w1 hw1 => ?_)) kn_N
  have hw9 := up_of hw1.1 hw1.2
  rw [up_up] at hw9
  subst hw9
  refine CS.op (P := fun w9 => Go _ _ _ _ _ _ _ _ _ _ w9 _ _) (hC.new q3n q3b) (fun w9 hC => ?_)
  refine g_putF (fs' := [.int 0, .ref q1, .ref q2, .ref q3, .int 0, .null, .null, .null, .null, .null, .null]) kc6 dX5_init_37 fw_X5_25 (by decide) rfl rfl hC.1 hb rfl rfl (Nat.le_of_ble_eq_true rfl) rfl ?_
  refine CS.op (P := fun w9 => Go _ _ _ _ _ _ _ _ _ _ w9 _ _) (hC.puta _) (fun w9 hC => ?_)
  refine g_aload0 dX5_init_40 ?_
  refine g_new (fs := [.null, .int 0]) kc5 dX5_init_41 cl_X5_28 ins_X4 ini_X4 (by intro j hj; rcases (show j = 0 ∨ j = 1 by omega) with rfl | rfl <;> rfl) (Nat.le_of_ble_eq_true rfl) (Nat.le_of_ble_eq_true rfl) (fun q5 q5n q5b => ?_)
  refine g_dup dX5_init_44 rfl ?_
  refine g_callIN0 (ct_X4_init (up_s _ _ _) q5b) md_X4_init dX5_init_45 ml_X5_30 rfl im_X4_init (RmOk.of (Nat.le_of_ble_eq_true rfl) (Nat.le_of_ble_eq_true rfl) (Nat.le_of_ble_eq_true rfl) (Nat.le_of_ble_eq_true rfl) (Nat.le_of_ble_eq_true rfl)) (kr_N (fun w1 hw1 => ?_)) kn_N
  obtain ⟨q5l, hv, hvb, hw1⟩ := hw1
  have hqv : q5 ≠ q5l := fun e => by rw [← e, up_s] at hv; cases hv
  rw [up_fix hqv] at hw1
  subst hw1
  rw [up_n (fun e => hqv e.symm)] at hv
  refine CS.op (P := fun w9 => Go _ _ _ _ _ _ _ _ _ _ w9 _ _) ((hC.new hv hvb).new (show up _ q5l _ q5 = none by rw [up_n hqv]; exact q5n) q5b) (fun w9 hC => ?_)
  refine g_putf (fs' := [.int 0, .ref q1, .ref q2, .ref q3, .int 0, .ref q5, .null, .null, .null, .null, .null]) kc6 dX5_init_48 fl_X5_31 (by decide) rfl hC.1 hb rfl rfl (Nat.le_of_ble_eq_true rfl) rfl ?_
  refine CS.op (P := fun w9 => Go _ _ _ _ _ _ _ _ _ _ w9 _ _) (hC.puta _) (fun w9 hC => ?_)
  refine g_aload0 dX5_init_51 ?_
  refine g_new (fs := [.null, .int 0, .int 0]) kc3 dX5_init_52 cl_X5_35 ins_X2 ini_X2 (by intro j hj; rcases (show j = 0 ∨ j = 1 ∨ j = 2 by omega) with rfl | rfl | rfl <;> rfl) (Nat.le_of_ble_eq_true rfl) (Nat.le_of_ble_eq_true rfl) (fun q6 q6n q6b => ?_)
  refine g_dup dX5_init_55 rfl ?_
  refine g_callIN0 (ct_X2_init (up_s _ _ _) q6b) md_X2_init dX5_init_56 ml_X5_37 rfl im_X2_init (RmOk.of (Nat.le_of_ble_eq_true rfl) (Nat.le_of_ble_eq_true rfl) (Nat.le_of_ble_eq_true rfl) (Nat.le_of_ble_eq_true rfl) (Nat.le_of_ble_eq_true rfl)) (kr_N (fun w1 hw1 => ?_)) kn_N
  obtain ⟨q6v, hv, hvb, hw1⟩ := hw1
  have hqv : q6 ≠ q6v := fun e => by rw [← e, up_s] at hv; cases hv
  rw [up_fix hqv] at hw1
  subst hw1
  rw [up_n (fun e => hqv e.symm)] at hv
  refine CS.op (P := fun w9 => Go _ _ _ _ _ _ _ _ _ _ w9 _ _) ((hC.new hv hvb).new (show up _ q6v _ q6 = none by rw [up_n hqv]; exact q6n) q6b) (fun w9 hC => ?_)
  refine g_putf (fs' := [.int 0, .ref q1, .ref q2, .ref q3, .int 0, .ref q5, .ref q6, .null, .null, .null, .null]) kc6 dX5_init_59 fl_X5_38 (by decide) rfl hC.1 hb rfl rfl (Nat.le_of_ble_eq_true rfl) rfl ?_
  refine CS.op (P := fun w9 => Go _ _ _ _ _ _ _ _ _ _ w9 _ _) (hC.puta _) (fun w9 hC => ?_)
  refine g_aload0 dX5_init_62 ?_
  refine g_new (fs := [.int 0, .null, .int 0]) kc0 dX5_init_63 cl_X5_18 ins_Jx4a65c ini_Jx4a65c (by intro j hj; rcases (show j = 0 ∨ j = 1 ∨ j = 2 by omega) with rfl | rfl | rfl <;> rfl) (Nat.le_of_ble_eq_true rfl) (Nat.le_of_ble_eq_true rfl) (fun q7 q7n q7b => ?_)
  refine g_dup dX5_init_66 rfl ?_
  refine g_callI0 (ct_arl_init (up_s _ _ _) q7b) md_Jx4a65c_init_da8c8 dX5_init_67 ml_X5_20 rfl im_Jx4a65c_init_da8c8 (RmOk.of (Nat.le_of_ble_eq_true rfl) (Nat.le_of_ble_eq_true rfl) (Nat.le_of_ble_eq_true rfl) (Nat.le_of_ble_eq_true rfl) (Nat.le_of_ble_eq_true rfl)) (kr_N (fun w1 hw1 => ?_)) kn_N
  have hw9 := up_of hw1.1 hw1.2
  rw [up_up] at hw9
  subst hw9
  refine CS.op (P := fun w9 => Go _ _ _ _ _ _ _ _ _ _ w9 _ _) (hC.new q7n q7b) (fun w9 hC => ?_)
  refine g_putF (fs' := [.int 0, .ref q1, .ref q2, .ref q3, .int 0, .ref q5, .ref q6, .ref q7, .null, .null, .null]) kc6 dX5_init_70 fw_X5_42 (by decide) rfl rfl hC.1 hb rfl rfl (Nat.le_of_ble_eq_true rfl) rfl ?_
  refine CS.op (P := fun w9 => Go _ _ _ _ _ _ _ _ _ _ w9 _ _) (hC.puta _) (fun w9 hC => ?_)
  refine g_aload0 dX5_init_73 ?_
  refine g_new (fs := [.int 0, .null, .int 0]) kc0 dX5_init_74 cl_X5_18 ins_Jx4a65c ini_Jx4a65c (by intro j hj; rcases (show j = 0 ∨ j = 1 ∨ j = 2 by omega) with rfl | rfl | rfl <;> rfl) (Nat.le_of_ble_eq_true rfl) (Nat.le_of_ble_eq_true rfl) (fun q8 q8n q8b => ?_)
  refine g_dup dX5_init_77 rfl ?_
  refine g_callI0 (ct_arl_init (up_s _ _ _) q8b) md_Jx4a65c_init_da8c8 dX5_init_78 ml_X5_20 rfl im_Jx4a65c_init_da8c8 (RmOk.of (Nat.le_of_ble_eq_true rfl) (Nat.le_of_ble_eq_true rfl) (Nat.le_of_ble_eq_true rfl) (Nat.le_of_ble_eq_true rfl) (Nat.le_of_ble_eq_true rfl)) (kr_N (fun w1 hw1 => ?_)) kn_N
  have hw9 := up_of hw1.1 hw1.2
  rw [up_up] at hw9
  subst hw9
  refine CS.op (P := fun w9 => Go _ _ _ _ _ _ _ _ _ _ w9 _ _) (hC.new q8n q8b) (fun w9 hC => ?_)
  refine g_putF (fs' := [.int 0, .ref q1, .ref q2, .ref q3, .int 0, .ref q5, .ref q6, .ref q7, .ref q8, .null, .null]) kc6 dX5_init_81 fw_X5_45 (by decide) rfl rfl hC.1 hb rfl rfl (Nat.le_of_ble_eq_true rfl) rfl ?_
  refine CS.op (P := fun w9 => Go _ _ _ _ _ _ _ _ _ _ w9 _ _) (hC.puta _) (fun w9 hC => ?_)
  refine g_aload0 dX5_init_84 ?_
  refine g_iconst (v := 4) dX5_init_85 (by decide) ?_
  refine g_newI (N := 4) dX5_init_86 ac_int (by decide) (by decide) (Nat.le_of_ble_eq_true rfl) (Nat.le_of_ble_eq_true rfl) (Nat.le_of_ble_eq_true rfl) (fun q9 q9n q9b => ?_)
  refine CS.op (P := fun w9 => Go _ _ _ _ _ _ _ _ _ _ w9 _ _) (hC.new q9n q9b) (fun w9 hC => ?_)
  refine g_putF (fs' := [.int 0, .ref q1, .ref q2, .ref q3, .int 0, .ref q5, .ref q6, .ref q7, .ref q8, .ref q9, .null]) kc6 dX5_init_88 fw_X5_48 (by decide) rfl rfl hC.1 hb rfl rfl (Nat.le_of_ble_eq_true rfl) rfl ?_
  refine CS.op (P := fun w9 => Go _ _ _ _ _ _ _ _ _ _ w9 _ _) (hC.puta _) (fun w9 hC => ?_)
  refine g_aload0 dX5_init_91 ?_
  refine g_bipush (v := 100) dX5_init_92 (by decide) ?_
  refine g_newZ (N := 100) dX5_init_94 ac_boolean (by decide) (by decide) (Nat.le_of_ble_eq_true rfl) (Nat.le_of_ble_eq_true rfl) (Nat.le_of_ble_eq_true rfl) (fun q10 q10n q10b => ?_)
  refine CS.op (P := fun w9 => Go _ _ _ _ _ _ _ _ _ _ w9 _ _) (hC.new q10n q10b) (fun w9 hC => ?_)
  refine g_putF (fs' := [.int 0, .ref q1, .ref q2, .ref q3, .int 0, .ref q5, .ref q6, .ref q7, .ref q8, .ref q9, .ref q10]) kc6 dX5_init_96 fw_X5_52 (by decide) rfl rfl hC.1 hb rfl rfl (Nat.le_of_ble_eq_true rfl) rfl ?_
  refine CS.op (P := fun w9 => Go _ _ _ _ _ _ _ _ _ _ w9 _ _) (hC.puta _) (fun w9 hC => ?_)
  refine g_iconst (v := 0) dX5_init_99 (by decide) ?_
  refine g_istore1 dX5_init_100 ?_
  have hK := Kl.ofCS hC hE hX hb
  refine go_mono (lp_init (S := S0 (ad0 [a, q1, q2, q3, q7, q8, q5l, q5, q6, q6v, q9, q10])) C 5 0 _ _ _ _ (by omega) (by omega) hK rfl rfl rfl rfl rfl ?_ ?_) (fun rv w9 h9 => ?_)
  · decide
  · show _ ≤ 250 + 30 * 0 + 4 * 0; decide
  · obtain ⟨h9, S9, a1, a2, g, a3, a4⟩ := h9
    exact ⟨h9, S9, a1, a2, g, a3, a4.trans rfl⟩

