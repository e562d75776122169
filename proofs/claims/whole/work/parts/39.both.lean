/-! One call of the law: the keeper's step, then the reference's. -/
section Both
variable {G : Gx} {X : Nat → Prop} {w w1 w2 : Wd} {kp ou th : Nat} {x : Int64} {am : Nat → Nat} {N N2 : Nat → Nat} {A A2 : Nat → Nat → Int32} {I : Nat → Int32}
theorem WQ.inv (h : WQ G X w kp ou th x N A w1) : ∃ w0, Inv0 G X w0 kp N A w1 := by
  rcases h with ⟨_, f, _, h⟩ | ⟨_, h⟩ <;> exact ⟨_, h⟩
theorem WQ.mz (h : WQ G X w kp ou th x N2 A2 w1) (hM : Mz G am w I A w) (hX : ∀ k, mIs k = true → X (am k)) (hne : ∀ k, mIs k = true → am k ≠ ou) : Mz G am w1 I A w1 := by
  refine hM.keep (fun k hk => ?_)
  rcases h with ⟨_, f, _, S, h1, -⟩ | ⟨_, S, h1, -⟩
  · rw [(h1.X _ (hX k hk)).1, up_n (hne k hk)]
  · exact (h1.X _ (hX k hk)).1
theorem WQ.out (h : WQ G X w kp ou th x N2 A2 w1) {f0 : Nat → Int64} (ho : w ou = some (eJ G 1 f0)) (hX : X ou) : ∃ f : Nat → Int64, w1 ou = some (eJ G 1 f) ∧ (th = 0 → f 0 = x) := by
  rcases h with ⟨_, f, hf, S, h1, -⟩ | ⟨h0, S, h1, -⟩
  · exact ⟨f, by rw [(h1.X _ hX).1, up_s], fun _ => hf⟩
  · exact ⟨f0, by rw [(h1.X _ hX).1]; exact ho, fun z => absurd h0 (by omega)⟩
/-- the keeper, the reference, the law's cell, side by side -/
def Jn (G : Gx) (X : Nat → Prop) (kp : Nat) (am : Nat → Nat) (ou : Nat) (th : Int32) (N : Nat → Nat) (A : Nat → Nat → Int32) (w : Wd) : Prop := Inv0 G X w kp N A w ∧ Mz G am w (tI th N) A w ∧ ∃ f : Nat → Int64, w ou = some (eJ G 1 f)
/-- what stays through the law -/
def Fx (G : Gx) (X : Nat → Prop) (am : Nat → Nat) (ou : Nat) : Prop := X ou ∧ ou ≠ gE G ∧ (gH G).size ≤ ou ∧ (∀ k, mIs k = true → X (am k)) ∧ (∀ k, mIs k = true → am k ≠ ou) ∧ ∀ k, mIs k = true → am k ≠ gE G
/-- behind the reference's call -/
theorem Jn.of {w0 : Wd} {th2 : Int32} (hF : Fx G X am ou) (h : Inv0 G X w0 kp N A w1) (hM : Mz G am w1 (tI th2 N2) A2 w2) {f : Nat → Int64} (ho : w1 ou = some (eJ G 1 f)) (e1 : N = N2) (e2 : A = A2) : Jn G X kp am ou th2 N2 A2 w2 ∧ w2 ou = some (eJ G 1 f) := by
  subst e1; subst e2
  have hou : w2 ou = some (eJ G 1 f) := (hM.2.2.2.2 ou (fun k hk z => hF.2.2.2.2.1 k hk z.symm)).trans ho
  exact ⟨⟨h.keep hF.2.2.2.1 hF.2.2.2.2.2 hM, hM.base, f, hou⟩, hou⟩
end Both
