/-! The law's arrays in a world, by number: a 0, p 1, c 2, r 3, f 4, d 5, n 6, v 7, b 8, t 9, g 10. -/
def PE (E : String) (B : Wd → Prop) : RV → Wd → Prop := fun r w' => r = .inr E ∧ B w'
section ContE
variable {w : Wd} {v : Value} {E0 : String} {B : Wd → Prop} {K : Option Value → Wd → Prop} {KX : String → Wd → Prop}
theorem kr_E : ∀ v' w', PE E0 B (.inl v') w' → K v' w' := fun _ _ hp => nomatch hp.1
theorem kx_E (h : ∀ w', B w' → KX E0 w') : ∀ E w', PE E0 B (.inr E) w' → KX E w' := fun _ _ hp => by obtain ⟨h1, h2⟩ := hp; cases h1; exact h _ h2
end ContE
theorem Kl.rebase {G : Gx} {X : Nat → Prop} {w0 w : Wd} {S : KS} (h : Kl G X w0 S w) : Kl G X w S w := by
  refine ⟨h.at_, h.inj, h.base, fun x hx => ⟨rfl, ?_, (h.X x hx).2.2⟩, ⟨h.E.1, (h.X _ h.E.1).1.trans h.E.2⟩, h.cl⟩
  rw [(h.X x hx).1]
  exact (h.X x hx).2.1
/-- the foreign cells may change when none of the keeper's does -/
theorem Kl.keep {G : Gx} {X : Nat → Prop} {w0 w w' : Wd} {S : KS} (h : Kl G X w0 S w) (ht : ∀ k i, Lv S k i → w' (S.ad k i) = w (S.ad k i)) (hx : ∀ x, X x → w' x ≠ none) (hE : w' (gE G) = w (gE G)) : Kl G X w' S w' := by
  refine ⟨fun k i hl => (ht k i hl).trans (h.at_ k i hl), h.inj, h.base, fun x hx9 => ⟨rfl, hx x hx9, (h.X x hx9).2.2⟩, ⟨h.E.1, hE.trans ((h.X _ h.E.1).1.trans h.E.2)⟩, h.cl⟩
def jlen : Nat → Nat
  | 0 => 1 | 1 => 60 | 2 => 60 | 3 => 15 | 4 => 10 | 5 => 60 | 6 => 60 | 7 => 4 | 8 => 4 | 9 => 6 | _ => 6
theorem jlen_le (k : Nat) : jlen k ≤ 60 := by
  unfold jlen
  split <;> decide
def LA (G : Gx) (am : Nat → Nat) (w0 : Wd) (FJ : Nat → Nat → Int64) (FI : Nat → Nat → Int32) (w : Wd) : Prop :=
  (∀ k, k < 2 → w (am k) = some (eJ G (jlen k) (FJ k))) ∧ (∀ k, 2 ≤ k → k < 11 → w (am k) = some (eI G (jlen k) (FI k))) ∧ (∀ k, k < 11 → (gH G).size ≤ am k) ∧ (∀ i j, i < 11 → j < 11 → am i = am j → i = j) ∧ ∀ a, (∀ k, k < 11 → a ≠ am k) → w a = w0 a
def LAZ (G : Gx) (X : Nat → Prop) (am : Nat → Nat) : Prop := ∀ k, k < 11 → X (am k) ∧ am k ≠ gE G
section LawArrays
variable {G : Gx} {X : Nat → Prop} {am : Nat → Nat} {w0 w w' : Wd} {FJ FJ' : Nat → Nat → Int64} {FI FI' : Nat → Nat → Int32} {kp : Nat} {N N' : Nat → Nat} {A A' : Nat → Nat → Int32}
theorem LA.base (h : LA G am w0 FJ FI w) : LA G am w FJ FI w := ⟨h.1, h.2.1, h.2.2.1, h.2.2.2.1, fun _ _ => rfl⟩
theorem LA.to (h : LA G am w0 FJ FI w) (e1 : FJ = FJ') (e2 : FI = FI') : LA G am w0 FJ' FI' w := by subst e1; subst e2; exact h
theorem LA.putI (h : LA G am w0 FJ FI w) {k : Nat} (h2 : 2 ≤ k) (hk : k < 11) (i : Nat) (x : Int32) : LA G am w0 FJ (updA FI k i x) (up w (am k) (eI G (jlen k) (upd (FI k) i x))) := by
  obtain ⟨a1, a2, a3, a4, a5⟩ := h
  refine ⟨fun j hj => ?_, fun j hj2 hj => ?_, a3, a4, fun a ha => ?_⟩
  · rw [up_n (fun e => by have := a4 _ _ (by omega) hk e; omega)]; exact a1 j hj
  · by_cases e : j = k
    · subst e
      rw [up_s]
      unfold updA
      rw [if_pos rfl]
    · rw [up_n (fun z => e (a4 _ _ hj hk z)), a2 j hj2 hj]
      unfold updA
      rw [if_neg e]
  · rw [up_n (ha k hk)]; exact a5 a ha
theorem LA.putJ (h : LA G am w0 FJ FI w) {k : Nat} (hk : k < 2) (i : Nat) (x : Int64) : LA G am w0 (updJ FJ k i x) FI (up w (am k) (eJ G (jlen k) (vp_updL (FJ k) i x))) := by
  obtain ⟨a1, a2, a3, a4, a5⟩ := h
  refine ⟨fun j hj => ?_, fun j hj2 hj => ?_, a3, a4, fun a ha => ?_⟩
  · by_cases e : j = k
    · subst e
      rw [up_s]
      unfold updJ
      rw [if_pos rfl]
    · rw [up_n (fun z => e (a4 _ _ (by omega) (by omega) z)), a1 j hj]
      unfold updJ
      rw [if_neg e]
  · rw [up_n (fun e => by have := a4 _ _ hj (by omega) e; omega)]; exact a2 j hj2 hj
  · rw [up_n (ha k (by omega))]; exact a5 a ha
theorem LA.keep (h : LA G am w0 FJ FI w) (hk : ∀ k, k < 11 → w' (am k) = w (am k)) : LA G am w' FJ FI w' :=
  ⟨fun k hk2 => (hk k (by omega)).trans (h.1 k hk2), fun k h2 hk2 => (hk k hk2).trans (h.2.1 k h2 hk2), h.2.2.1, h.2.2.2.1, fun _ _ => rfl⟩
theorem LA.some (h : LA G am w0 FJ FI w) {k : Nat} (hk : k < 11) : w (am k) ≠ none := by
  by_cases z : k < 2
  · rw [h.1 k z]; exact Option.some_ne_none _
  · rw [h.2.1 k (by omega) hk]; exact Option.some_ne_none _
/-- the keeper is where it was: the law's own steps -/
theorem Inv0.keepL (h : Inv0 G X w0 kp N A w) (hZ : LAZ G X am) (hM : LA G am w FJ FI w') : Inv0 G X w' kp N A w' := by
  obtain ⟨S, h1, h2, h3⟩ := h
  refine ⟨S, h1.keep (fun k i hl => ?_) (fun x hx => ?_) ?_, h2, h3⟩
  · exact hM.2.2.2.2 _ (fun j hj => (h1.X _ (hZ j hj).1).2.2 k i hl)
  · by_cases z : ∃ j, j < 11 ∧ x = am j
    · obtain ⟨j, hj, rfl⟩ := z
      exact hM.some hj
    · rw [hM.2.2.2.2 x (fun j hj e => z ⟨j, hj, e⟩), (h1.X x hx).1]
      exact (h1.X x hx).2.1
  · exact hM.2.2.2.2 _ (fun j hj e => (hZ j hj).2 e.symm)
/-- the law's arrays are where they were: the keeper's step -/
theorem Inv0.after (h : Inv0 G X w kp N' A' w') (hZ : LAZ G X am) (hM : LA G am w0 FJ FI w) : Inv0 G X w' kp N' A' w' ∧ LA G am w' FJ FI w' := by
  obtain ⟨S, h1, h2, h3⟩ := h
  exact ⟨⟨S, h1.rebase, h2, h3⟩, hM.keep (fun k hk => (h1.X _ (hZ k hk).1).1)⟩
theorem Inv0.g0 (h : Inv0 G X w0 kp N A w) : ∃ fs, w kp = some (eO 6 fs) := by
  obtain ⟨S, h1, h2, rfl⟩ := h
  exact ⟨_, h1.g0⟩
end LawArrays
section LawRows
variable {G : Gx} {R : Room} {cc : ByteArray} {own : String} {Y : Yx} {C : Cx} {Q : State → Prop} {pc : Nat} {L : List (Option Value)} {st : List Value} {w w0 : Wd} {c kk : Nat} {am : Nat → Nat} {FJ : Nat → Nat → Int64} {FI : Nat → Nat → Int32}
theorem g_ldc2 {idx : Nat} {v : Int64} (d : decode cc pc = .ok (.ldc2_w idx, 3)) (h1 : Cond.constantLong own idx v ∈ tw) (h : Go G R cc own Y C Q (pc + 3) L (.long v :: st) w c kk) : Go G R cc own Y C Q pc L st w c kk := by
  obtain ⟨p, e, s, m, args, below, meth, cd⟩ := C
  intro O H ls locs hR hS hL
  exact lv_ldc2 O.1 O.2.1 O.2.2.1 (O.2.2.2.1.w h1) d (h O H ls locs hR hS hL)
theorem g_jiald {k i : Nat} (hM : LA G am w0 FJ FI w) (h2 : 2 ≤ k) (hk : k < 11) (d : decode cc pc = .ok (.iaload, 1)) (hi : i < jlen k) (h : Go G R cc own Y C Q (pc + 1) L (.int (FI k i) :: st) w c kk) : Go G R cc own Y C Q pc L (.int (nI i) :: .ref (am k) :: st) w c kk := by
  have := jlen_le k
  refine g_iald d (hM.2.1 k h2 hk) (vp_in_nI hi (by omega)) ?_
  rw [nI_clamp (by omega)]
  exact h
theorem g_jlald {k i : Nat} (hM : LA G am w0 FJ FI w) (hk : k < 2) (d : decode cc pc = .ok (.laload, 1)) (hi : i < jlen k) (h : Go G R cc own Y C Q (pc + 1) L (.long (FJ k i) :: st) w c kk) : Go G R cc own Y C Q pc L (.int (nI i) :: .ref (am k) :: st) w c kk := by
  have := jlen_le k
  refine g_lald d (hM.1 k hk) (vp_in_nI hi (by omega)) ?_
  rw [nI_clamp (by omega)]
  exact h
theorem g_jiast {k i : Nat} {x : Int32} (hM : LA G am w0 FJ FI w) (h2 : 2 ≤ k) (hk : k < 11) (d : decode cc pc = .ok (.iastore, 1)) (hi : i < jlen k) (h : ∀ w1, LA G am w0 FJ (updA FI k i x) w1 → Go G R cc own Y C Q (pc + 1) L st w1 c kk) : Go G R cc own Y C Q pc L (.int x :: .int (nI i) :: .ref (am k) :: st) w c kk := by
  have := jlen_le k
  refine g_iast d (hM.2.1 k h2 hk) (hM.2.2.1 k hk) (vp_in_nI hi (by omega)) ?_
  rw [nI_clamp (by omega)]
  exact h _ (hM.putI h2 hk i x)
theorem g_jlast {k i : Nat} {x : Int64} (hM : LA G am w0 FJ FI w) (hk : k < 2) (d : decode cc pc = .ok (.lastore, 1)) (hi : i < jlen k) (h : ∀ w1, LA G am w0 (updJ FJ k i x) FI w1 → Go G R cc own Y C Q (pc + 1) L st w1 c kk) : Go G R cc own Y C Q pc L (.long x :: .int (nI i) :: .ref (am k) :: st) w c kk := by
  have := jlen_le k
  refine g_last d (hM.1 k hk) (hM.2.2.1 k (by omega)) (vp_in_nI hi (by omega)) ?_
  rw [nI_clamp (by omega)]
  exact h _ (hM.putJ hk i x)
end LawRows

