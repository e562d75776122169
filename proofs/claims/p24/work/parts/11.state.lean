/-! The state of the keeper as numbers; the reference's object and arrays that hold it. Scalars N by the field's number (1 day, 2 formats, 6 kept, 7 ended, 10 typed, 13 runs, 17 documents), arrays A by the field's number. -/
def updN (N : Nat → Nat) (k v : Nat) : Nat → Nat := fun j => if j = k then v else N j
def updA (A : Nat → Nat → Int32) (k i : Nat) (x : Int32) : Nat → Nat → Int32 := fun j => if j = k then upd (A k) i x else A j
def tI (th : Int32) (N : Nat → Nat) : Nat → Int32 := fun k => if k = 0 then th else nI (N k)
def bI (b : Bool) : Int32 := if b then 1 else 0
theorem bI_0 {b : Bool} : bI b = 0 ↔ b = false := by cases b <;> decide
theorem bI_n {b : Bool} : ¬ bI b = 0 ↔ b = true := by cases b <;> decide
theorem bI_nar (b : Bool) : narrow .boolean (.int (bI b)) = .int (bI b) := by cases b <;> rfl
/-- v lies from lo to hi -/
def inb (v lo hi : Int32) : Bool := !decide (v < lo) && decide (v ≤ hi)
theorem inb_t {v lo hi : Int32} : inb v lo hi = true ↔ ¬ v < lo ∧ v ≤ hi := by simp [inb]
theorem inb_f {v lo hi : Int32} : inb v lo hi = false ↔ (v < lo ∨ ¬ v ≤ hi) := by
  cases h : inb v lo hi with
  | false =>
    refine ⟨fun _ => ?_, fun _ => rfl⟩
    by_cases h1 : v < lo
    · exact Or.inl h1
    · exact Or.inr fun h2 => by rw [inb_t.mpr ⟨h1, h2⟩] at h; cases h
  | true => exact ⟨(fun h2 => nomatch h2), fun h2 => absurd (inb_t.mp h) (by rcases h2 with h2 | h2 <;> simp [h2])⟩
/-- a value from 0 to n is a number -/
theorem inb_nat {v : Int32} {n : Nat} (hn : n < 2 ^ 31) (h : inb v 0 (nI n) = true) : ∃ j : Nat, j ≤ n ∧ v = nI j := by
  obtain ⟨h1, h2⟩ := inb_t.mp h
  obtain ⟨j, hj, rfl⟩ := nI_of h1
  exact ⟨j, (nI_leI hj hn).mp h2, rfl⟩
theorem inb_nI {j n : Nat} (hj : j ≤ n) (hn : n < 2 ^ 31) : inb (nI j) 0 (nI n) = true := inb_t.mpr ⟨nI_pos (by omega), (nI_leI (by omega) hn).mpr hj⟩
/-- .. below n, as Java says it: to n - 1 -/
theorem inb_lt {v : Int32} {n : Nat} (hn : n < 2 ^ 31) : inb v 0 (nI n - 1) = true ↔ ∃ j : Nat, j < n ∧ v = nI j := by
  cases n with
  | zero =>
    refine ⟨fun h => ?_, fun ⟨j, hj, _⟩ => absurd hj (Nat.not_lt_zero j)⟩
    obtain ⟨h1, h2⟩ := inb_t.mp h
    obtain ⟨j, hj, rfl⟩ := nI_of h1
    have h3 : (nI j).toInt ≤ (nI 0 - 1 : Int32).toInt := Int32.le_iff_toInt_le.mp h2
    rw [nI_toInt hj, show (nI 0 - 1 : Int32).toInt = -1 from by decide] at h3
    omega
  | succ n =>
    rw [nI_pred]
    refine ⟨fun h => ?_, fun ⟨j, hj, e⟩ => by rw [e]; exact inb_nI (by omega) (by omega)⟩
    obtain ⟨j, hj, e⟩ := inb_nat (by omega) h
    exact ⟨j, by omega, e⟩
