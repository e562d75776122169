/-! The start: both sides new. -/
theorem lk_start {S : KS} {g f25 f26 f27 : Nat → Int32} (hg : ∀ j, j < 4 → g j = 100) (hf : ∀ i, i < 4 → f25 i = 99 ∧ f26 i = -1 ∧ f27 i = 100) (h : S.v = ((rdT (S0 (fun _ _ => 0)) 4).ssp g).v) : Lk S (fun _ => 0) (A0 f25 f26 f27) := by
  refine Lk_v h ⟨⟨rfl, Nat.zero_le _, rfl⟩, ⟨rfl, rfl, Nat.zero_le _, fun j hj => absurd hj (Nat.not_lt_zero _)⟩, ⟨rfl, rfl, rfl, Nat.zero_le _, rfl, rfl, rfl, fun j hj => absurd hj (Nat.not_lt_zero _)⟩,
    ⟨rfl, rfl, rfl, Nat.zero_le _, rfl, Nat.zero_le _, rfl, fun j hj => absurd hj (Nat.not_lt_zero _), fun j hj => absurd hj (Nat.not_lt_zero _), fun j hj => absurd hj (Nat.not_lt_zero _)⟩,
    ⟨rfl, rfl, Nat.le_refl _, fun j hj => absurd hj (Nat.not_lt_zero _)⟩, ⟨rfl, rfl, fun r hr => ?_, fun k hk => (hg k hk).trans (hf k hk).2.2.symm, fun a _ => ⟨rfl, false, rfl⟩⟩⟩
  match r, hr with
  | 0, _ => exact ⟨rfl, rfl, (hf 0 (by decide)).1.symm, (hf 0 (by decide)).2.1.symm⟩
  | 1, _ => exact ⟨rfl, rfl, (hf 1 (by decide)).1.symm, (hf 1 (by decide)).2.1.symm⟩
  | 2, _ => exact ⟨rfl, rfl, (hf 2 (by decide)).1.symm, (hf 2 (by decide)).2.1.symm⟩
  | 3, _ => exact ⟨rfl, rfl, (hf 3 (by decide)).1.symm, (hf 3 (by decide)).2.1.symm⟩
  | n + 4, hr => exact absurd hr (by omega)
