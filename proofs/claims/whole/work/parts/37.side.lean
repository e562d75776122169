/-! What the law's own methods stand on: throws that keep a world, the law's cell, the two states side by side. -/
def PE (E : String) (B : Wd → Prop) : RV → Wd → Prop := fun r w' => r = .inr E ∧ B w'
section ContE
variable {w : Wd} {v : Value} {E0 : String} {B : Wd → Prop} {K : Option Value → Wd → Prop} {KX : String → Wd → Prop}
theorem kr_E : ∀ v' w', PE E0 B (.inl v') w' → K v' w' := fun _ _ hp => nomatch hp.1
theorem kx_E (h : ∀ w', B w' → KX E0 w') : ∀ E w', PE E0 B (.inr E) w' → KX E w' := fun _ _ hp => by obtain ⟨h1, h2⟩ := hp; cases h1; exact h _ h2
end ContE
theorem Kl.rebase {G : Gx} {X : Nat → Prop} {w0 w : Wd} {S : KS} (h : Kl G X w0 S w) : Kl G X w S w := by
  refine ⟨h.at_, h.inj, h.base, fun x hx => ⟨rfl, ?_, (h.X x hx).2.2⟩, ⟨h.E.1, (h.X _ h.E.1).1.trans h.E.2⟩, h.cl⟩
  rw [(h.X x hx).1]
  exact (h.X x hx).2.1
/-- a foreign cell is written -/
theorem Kl.pX {G : Gx} {X : Nat → Prop} {w0 w : Wd} {S : KS} (h : Kl G X w0 S w) {x : Nat} (hx : X x) (hE : x ≠ gE G) (e : va_E) : Kl G X (up w0 x e) S (up w x e) := by
  refine ⟨fun k i hl => ?_, h.inj, h.base, fun y hy => ?_, ⟨h.E.1, ?_⟩, h.cl⟩
  · rw [up_n ((h.X x hx).2.2 k i hl)]; exact h.at_ k i hl
  · by_cases z : y = x
    · rw [z, up_s, up_s]
      exact ⟨rfl, Option.some_ne_none _, (h.X x hx).2.2⟩
    · rw [up_n z, up_n z]; exact h.X y hy
  · rw [up_n (fun z => hE z.symm)]; exact h.E.2
/-- the foreign cells may change when none of the keeper's does -/
theorem Kl.keep {G : Gx} {X : Nat → Prop} {w0 w w' : Wd} {S : KS} (h : Kl G X w0 S w) (ht : ∀ k i, Lv S k i → w' (S.ad k i) = w (S.ad k i)) (hx : ∀ x, X x → w' x ≠ none) (hE : w' (gE G) = w (gE G)) : Kl G X w' S w' := by
  refine ⟨fun k i hl => (ht k i hl).trans (h.at_ k i hl), h.inj, h.base, fun x hx9 => ⟨rfl, hx x hx9, (h.X x hx9).2.2⟩, ⟨h.E.1, hE.trans ((h.X _ h.E.1).1.trans h.E.2)⟩, h.cl⟩
theorem Inv0.pX {G : Gx} {X : Nat → Prop} {w0 w : Wd} {kp : Nat} {N : Nat → Nat} {A : Nat → Nat → Int32} (h : Inv0 G X w0 kp N A w) {x : Nat} (hx : X x) (hE : x ≠ gE G) (e : va_E) : Inv0 G X (up w0 x e) kp N A (up w x e) := by
  obtain ⟨S, h1, h2, h3⟩ := h
  exact ⟨S, h1.pX hx hE e, h2, h3⟩
/-- the reference is where it was: the keeper's step -/
theorem Mz.keep {G : Gx} {am : Nat → Nat} {w0 w w' : Wd} {I : Nat → Int32} {A : Nat → Nat → Int32} (h : Mz G am w0 I A w) (hk : ∀ k, mIs k = true → w' (am k) = w (am k)) : Mz G am w' I A w' :=
  ⟨(hk 0 rfl).trans h.1, fun k h1 h2 => (hk k h1).trans (h.2.1 k h1 h2), h.2.2.1, h.2.2.2.1, fun _ _ => rfl⟩
theorem Mz.some {G : Gx} {am : Nat → Nat} {w0 w : Wd} {I : Nat → Int32} {A : Nat → Nat → Int32} (h : Mz G am w0 I A w) {k : Nat} (hk : mIs k = true) : w (am k) ≠ none := by
  by_cases z : k = 0
  · rw [z, h.1]; exact Option.some_ne_none _
  · rw [h.2.1 k hk z]; exact Option.some_ne_none _
/-- the keeper is where it was: the reference's step -/
theorem Inv0.keep {G : Gx} {X : Nat → Prop} {w0 w w' : Wd} {kp : Nat} {N : Nat → Nat} {A A' : Nat → Nat → Int32} {I : Nat → Int32} {am : Nat → Nat} (h : Inv0 G X w0 kp N A w) (hX : ∀ k, mIs k = true → X (am k)) (hE : ∀ k, mIs k = true → am k ≠ gE G) (hM : Mz G am w I A' w') : Inv0 G X w' kp N A w' := by
  obtain ⟨S, h1, h2, h3⟩ := h
  refine ⟨S, h1.keep (fun k i hl => ?_) (fun x hx => ?_) ?_, h2, h3⟩
  · exact hM.2.2.2.2 _ (fun j hj => (h1.X _ (hX j hj)).2.2 k i hl)
  · by_cases z : ∃ j, mIs j = true ∧ x = am j
    · obtain ⟨j, hj, rfl⟩ := z
      exact hM.some hj
    · rw [hM.2.2.2.2 x (fun j hj e => z ⟨j, hj, e⟩), (h1.X x hx).1]
      exact (h1.X x hx).2.1
  · exact hM.2.2.2.2 _ (fun j hj e => hE j hj e.symm)

