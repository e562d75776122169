/-! The heap of the keeper: objects by kind (0 keeper, 1 usual format, 2 formats, 3 lists, 4 their arrays, 5 runs, 6 pages, 7 their values, 8 documents, 9 readers, 10 spans, 11 holds) and number; lists 0 formats, 1 runs, 2 documents, 3 readers, 4 + r the pages of run r. -/
abbrev KS : Type := (Nat → Nat → Nat) × (Nat → Nat) × (Nat → Nat) × (Nat → Int32) × (Nat → Nat) × (Int32) × (Int32) × (Nat → Nat → Int32) × (Nat → Int32) × (Nat → Nat) × (Nat) × (Nat) × (Nat → Nat) × (Nat → Int32) × (Nat → Nat → Int32) × (Nat → Nat) × (Nat → Nat → Int32) × (Nat → Nat → Int32) × (Nat → Int32) × (Nat → Int32)
def KS.ad (S : KS) : Nat → Nat → Nat := S.1
def KS.sad (S : KS) (x : Nat → Nat → Nat) : KS := (x, S.2)
def KS.nn (S : KS) : Nat → Nat := S.2.1
def KS.snn (S : KS) (x : Nat → Nat) : KS := (S.1, x, S.2.2)
def KS.ln (S : KS) : Nat → Nat := S.2.2.1
def KS.sln (S : KS) (x : Nat → Nat) : KS := (S.1, S.2.1, x, S.2.2.2)
def KS.mo (S : KS) : Nat → Int32 := S.2.2.2.1
def KS.smo (S : KS) (x : Nat → Int32) : KS := (S.1, S.2.1, S.2.2.1, x, S.2.2.2.2)
def KS.cp (S : KS) : Nat → Nat := S.2.2.2.2.1
def KS.scp (S : KS) (x : Nat → Nat) : KS := (S.1, S.2.1, S.2.2.1, S.2.2.2.1, x, S.2.2.2.2.2)
def KS.day (S : KS) : Int32 := S.2.2.2.2.2.1
def KS.sday (S : KS) (x : Int32) : KS := (S.1, S.2.1, S.2.2.1, S.2.2.2.1, S.2.2.2.2.1, x, S.2.2.2.2.2.2)
def KS.kept (S : KS) : Int32 := S.2.2.2.2.2.2.1
def KS.skept (S : KS) (x : Int32) : KS := (S.1, S.2.1, S.2.2.1, S.2.2.2.1, S.2.2.2.2.1, S.2.2.2.2.2.1, x, S.2.2.2.2.2.2.2)
def KS.fm (S : KS) : Nat → Nat → Int32 := S.2.2.2.2.2.2.2.1
def KS.sfm (S : KS) (x : Nat → Nat → Int32) : KS := (S.1, S.2.1, S.2.2.1, S.2.2.2.1, S.2.2.2.2.1, S.2.2.2.2.2.1, S.2.2.2.2.2.2.1, x, S.2.2.2.2.2.2.2.2)
def KS.rD (S : KS) : Nat → Int32 := S.2.2.2.2.2.2.2.2.1
def KS.srD (S : KS) (x : Nat → Int32) : KS := (S.1, S.2.1, S.2.2.1, S.2.2.2.1, S.2.2.2.2.1, S.2.2.2.2.2.1, S.2.2.2.2.2.2.1, S.2.2.2.2.2.2.2.1, x, S.2.2.2.2.2.2.2.2.2)
def KS.rF (S : KS) : Nat → Nat := S.2.2.2.2.2.2.2.2.2.1
def KS.srF (S : KS) (x : Nat → Nat) : KS := (S.1, S.2.1, S.2.2.1, S.2.2.2.1, S.2.2.2.2.1, S.2.2.2.2.2.1, S.2.2.2.2.2.2.1, S.2.2.2.2.2.2.2.1, S.2.2.2.2.2.2.2.2.1, x, S.2.2.2.2.2.2.2.2.2.2)
def KS.oR (S : KS) : Nat := S.2.2.2.2.2.2.2.2.2.2.1
def KS.soR (S : KS) (x : Nat) : KS := (S.1, S.2.1, S.2.2.1, S.2.2.2.1, S.2.2.2.2.1, S.2.2.2.2.2.1, S.2.2.2.2.2.2.1, S.2.2.2.2.2.2.2.1, S.2.2.2.2.2.2.2.2.1, S.2.2.2.2.2.2.2.2.2.1, x, S.2.2.2.2.2.2.2.2.2.2.2)
def KS.oP (S : KS) : Nat := S.2.2.2.2.2.2.2.2.2.2.2.1
def KS.soP (S : KS) (x : Nat) : KS := (S.1, S.2.1, S.2.2.1, S.2.2.2.1, S.2.2.2.2.1, S.2.2.2.2.2.1, S.2.2.2.2.2.2.1, S.2.2.2.2.2.2.2.1, S.2.2.2.2.2.2.2.2.1, S.2.2.2.2.2.2.2.2.2.1, S.2.2.2.2.2.2.2.2.2.2.1, x, S.2.2.2.2.2.2.2.2.2.2.2.2)
def KS.pS (S : KS) : Nat → Nat := S.2.2.2.2.2.2.2.2.2.2.2.2.1
def KS.spS (S : KS) (x : Nat → Nat) : KS := (S.1, S.2.1, S.2.2.1, S.2.2.2.1, S.2.2.2.2.1, S.2.2.2.2.2.1, S.2.2.2.2.2.2.1, S.2.2.2.2.2.2.2.1, S.2.2.2.2.2.2.2.2.1, S.2.2.2.2.2.2.2.2.2.1, S.2.2.2.2.2.2.2.2.2.2.1, S.2.2.2.2.2.2.2.2.2.2.2.1, x, S.2.2.2.2.2.2.2.2.2.2.2.2.2)
def KS.pC (S : KS) : Nat → Int32 := S.2.2.2.2.2.2.2.2.2.2.2.2.2.1
def KS.spC (S : KS) (x : Nat → Int32) : KS := (S.1, S.2.1, S.2.2.1, S.2.2.2.1, S.2.2.2.2.1, S.2.2.2.2.2.1, S.2.2.2.2.2.2.1, S.2.2.2.2.2.2.2.1, S.2.2.2.2.2.2.2.2.1, S.2.2.2.2.2.2.2.2.2.1, S.2.2.2.2.2.2.2.2.2.2.1, S.2.2.2.2.2.2.2.2.2.2.2.1, S.2.2.2.2.2.2.2.2.2.2.2.2.1, x, S.2.2.2.2.2.2.2.2.2.2.2.2.2.2)
def KS.pV (S : KS) : Nat → Nat → Int32 := S.2.2.2.2.2.2.2.2.2.2.2.2.2.2.1
def KS.spV (S : KS) (x : Nat → Nat → Int32) : KS := (S.1, S.2.1, S.2.2.1, S.2.2.2.1, S.2.2.2.2.1, S.2.2.2.2.2.1, S.2.2.2.2.2.2.1, S.2.2.2.2.2.2.2.1, S.2.2.2.2.2.2.2.2.1, S.2.2.2.2.2.2.2.2.2.1, S.2.2.2.2.2.2.2.2.2.2.1, S.2.2.2.2.2.2.2.2.2.2.2.1, S.2.2.2.2.2.2.2.2.2.2.2.2.1, S.2.2.2.2.2.2.2.2.2.2.2.2.2.1, x, S.2.2.2.2.2.2.2.2.2.2.2.2.2.2.2)
def KS.dR (S : KS) : Nat → Nat := S.2.2.2.2.2.2.2.2.2.2.2.2.2.2.2.1
def KS.sdR (S : KS) (x : Nat → Nat) : KS := (S.1, S.2.1, S.2.2.1, S.2.2.2.1, S.2.2.2.2.1, S.2.2.2.2.2.1, S.2.2.2.2.2.2.1, S.2.2.2.2.2.2.2.1, S.2.2.2.2.2.2.2.2.1, S.2.2.2.2.2.2.2.2.2.1, S.2.2.2.2.2.2.2.2.2.2.1, S.2.2.2.2.2.2.2.2.2.2.2.1, S.2.2.2.2.2.2.2.2.2.2.2.2.1, S.2.2.2.2.2.2.2.2.2.2.2.2.2.1, S.2.2.2.2.2.2.2.2.2.2.2.2.2.2.1, x, S.2.2.2.2.2.2.2.2.2.2.2.2.2.2.2.2)
def KS.dI (S : KS) : Nat → Nat → Int32 := S.2.2.2.2.2.2.2.2.2.2.2.2.2.2.2.2.1
def KS.sdI (S : KS) (x : Nat → Nat → Int32) : KS := (S.1, S.2.1, S.2.2.1, S.2.2.2.1, S.2.2.2.2.1, S.2.2.2.2.2.1, S.2.2.2.2.2.2.1, S.2.2.2.2.2.2.2.1, S.2.2.2.2.2.2.2.2.1, S.2.2.2.2.2.2.2.2.2.1, S.2.2.2.2.2.2.2.2.2.2.1, S.2.2.2.2.2.2.2.2.2.2.2.1, S.2.2.2.2.2.2.2.2.2.2.2.2.1, S.2.2.2.2.2.2.2.2.2.2.2.2.2.1, S.2.2.2.2.2.2.2.2.2.2.2.2.2.2.1, S.2.2.2.2.2.2.2.2.2.2.2.2.2.2.2.1, x, S.2.2.2.2.2.2.2.2.2.2.2.2.2.2.2.2.2)
def KS.rd (S : KS) : Nat → Nat → Int32 := S.2.2.2.2.2.2.2.2.2.2.2.2.2.2.2.2.2.1
def KS.srd (S : KS) (x : Nat → Nat → Int32) : KS := (S.1, S.2.1, S.2.2.1, S.2.2.2.1, S.2.2.2.2.1, S.2.2.2.2.2.1, S.2.2.2.2.2.2.1, S.2.2.2.2.2.2.2.1, S.2.2.2.2.2.2.2.2.1, S.2.2.2.2.2.2.2.2.2.1, S.2.2.2.2.2.2.2.2.2.2.1, S.2.2.2.2.2.2.2.2.2.2.2.1, S.2.2.2.2.2.2.2.2.2.2.2.2.1, S.2.2.2.2.2.2.2.2.2.2.2.2.2.1, S.2.2.2.2.2.2.2.2.2.2.2.2.2.2.1, S.2.2.2.2.2.2.2.2.2.2.2.2.2.2.2.1, S.2.2.2.2.2.2.2.2.2.2.2.2.2.2.2.2.1, x, S.2.2.2.2.2.2.2.2.2.2.2.2.2.2.2.2.2.2)
def KS.sp (S : KS) : Nat → Int32 := S.2.2.2.2.2.2.2.2.2.2.2.2.2.2.2.2.2.2.1
def KS.ssp (S : KS) (x : Nat → Int32) : KS := (S.1, S.2.1, S.2.2.1, S.2.2.2.1, S.2.2.2.2.1, S.2.2.2.2.2.1, S.2.2.2.2.2.2.1, S.2.2.2.2.2.2.2.1, S.2.2.2.2.2.2.2.2.1, S.2.2.2.2.2.2.2.2.2.1, S.2.2.2.2.2.2.2.2.2.2.1, S.2.2.2.2.2.2.2.2.2.2.2.1, S.2.2.2.2.2.2.2.2.2.2.2.2.1, S.2.2.2.2.2.2.2.2.2.2.2.2.2.1, S.2.2.2.2.2.2.2.2.2.2.2.2.2.2.1, S.2.2.2.2.2.2.2.2.2.2.2.2.2.2.2.1, S.2.2.2.2.2.2.2.2.2.2.2.2.2.2.2.2.1, S.2.2.2.2.2.2.2.2.2.2.2.2.2.2.2.2.2.1, x, S.2.2.2.2.2.2.2.2.2.2.2.2.2.2.2.2.2.2.2)
def KS.he (S : KS) : Nat → Int32 := S.2.2.2.2.2.2.2.2.2.2.2.2.2.2.2.2.2.2.2
def KS.she (S : KS) (x : Nat → Int32) : KS := (S.1, S.2.1, S.2.2.1, S.2.2.2.1, S.2.2.2.2.1, S.2.2.2.2.2.1, S.2.2.2.2.2.2.1, S.2.2.2.2.2.2.2.1, S.2.2.2.2.2.2.2.2.1, S.2.2.2.2.2.2.2.2.2.1, S.2.2.2.2.2.2.2.2.2.2.1, S.2.2.2.2.2.2.2.2.2.2.2.1, S.2.2.2.2.2.2.2.2.2.2.2.2.1, S.2.2.2.2.2.2.2.2.2.2.2.2.2.1, S.2.2.2.2.2.2.2.2.2.2.2.2.2.2.1, S.2.2.2.2.2.2.2.2.2.2.2.2.2.2.2.1, S.2.2.2.2.2.2.2.2.2.2.2.2.2.2.2.2.1, S.2.2.2.2.2.2.2.2.2.2.2.2.2.2.2.2.2.1, S.2.2.2.2.2.2.2.2.2.2.2.2.2.2.2.2.2.2.1, x)
def ekK : Nat → Nat
  | 0 => 2
  | 1 => 5
  | 2 => 8
  | 3 => 9
  | _ => 6
def ekI (S : KS) : Nat → Nat → Nat
  | 0, i => i
  | 1, i => i
  | 2, i => i
  | 3, i => i
  | l + 4, i => S.rF l + i
def elK (S : KS) (l i : Nat) : Nat := S.ad (ekK l) (ekI S l i)
def ddK (G : Gx) (S : KS) (l : Nat) : Nat := if S.cp l = 0 then gE G else S.ad 4 l
def kc (G : Gx) (S : KS) (k i : Nat) : va_E := match k with
  | 0 => eO 6 [.int S.day, .ref (S.ad 1 0), .ref (S.ad 3 0), .ref (S.ad 3 1), .int S.kept, .ref (S.ad 5 S.oR), .ref (S.ad 6 S.oP), .ref (S.ad 3 2), .ref (S.ad 3 3), .ref (S.ad 10 0), .ref (S.ad 11 0)]
  | 1 => eFm 0 0 1
  | 2 => eFm (S.fm i 0) (S.fm i 1) (S.fm i 2)
  | 3 => eLs (S.mo i) (ddK G S i) (S.ln i)
  | 4 => eQ G (S.cp i) (lf (S.ln i) (elK S i))
  | 5 => eRn (S.ad 3 (i + 4)) (S.rD i)
  | 6 => ePg (S.ad 7 i) (nI (S.pS i)) (S.pC i)
  | 7 => eI G 8 (S.pV i)
  | 8 => eDc (S.ad 5 (S.dR i)) (S.dI i 0) (S.dI i 1) (S.dI i 2) (S.dI i 3) (S.dI i 4)
  | 9 => eRd (S.rd i 0) (S.rd i 1) (S.rd i 2) (S.rd i 3)
  | 10 => eI G 4 S.sp
  | _ => eZ G 100 S.he
def Lv (S : KS) (k i : Nat) : Prop := k < 12 ∧ i < S.nn k ∧ (k = 4 → S.cp i ≠ 0)
abbrev Cl (S : KS) : Prop := (S.nn 0 = 1 ∧ S.nn 1 = 1 ∧ S.nn 10 = 1 ∧ S.nn 11 = 1) ∧ (S.nn 4 = S.nn 3) ∧ (S.nn 5 + 4 ≤ S.nn 3) ∧ (S.nn 6 ≤ S.nn 7) ∧ (S.oR < S.nn 5) ∧ (S.oP < S.nn 6) ∧ (∀ l i, l < S.nn 3 → i < S.ln l → ekI S l i < S.nn (ekK l)) ∧ (∀ d, d < S.nn 8 → S.dR d < S.nn 5) ∧ (∀ l, l < S.nn 3 → S.ln l ≤ S.cp l ∧ (S.cp l = 0 ∨ 10 ≤ S.cp l ∧ S.cp l ≤ 200))
theorem Cl.c0 {S : KS} (h : Cl S) : S.nn 0 = 1 ∧ S.nn 1 = 1 ∧ S.nn 10 = 1 ∧ S.nn 11 = 1 := h.1
theorem Cl.c4 {S : KS} (h : Cl S) : S.nn 4 = S.nn 3 := h.2.1
theorem Cl.c5 {S : KS} (h : Cl S) : S.nn 5 + 4 ≤ S.nn 3 := h.2.2.1
theorem Cl.c7 {S : KS} (h : Cl S) : S.nn 6 ≤ S.nn 7 := h.2.2.2.1
theorem Cl.oR {S : KS} (h : Cl S) : S.oR < S.nn 5 := h.2.2.2.2.1
theorem Cl.oP {S : KS} (h : Cl S) : S.oP < S.nn 6 := h.2.2.2.2.2.1
theorem Cl.el {S : KS} (h : Cl S) : ∀ l i, l < S.nn 3 → i < S.ln l → ekI S l i < S.nn (ekK l) := h.2.2.2.2.2.2.1
theorem Cl.dR {S : KS} (h : Cl S) : ∀ d, d < S.nn 8 → S.dR d < S.nn 5 := h.2.2.2.2.2.2.2.1
theorem Cl.cp {S : KS} (h : Cl S) : ∀ l, l < S.nn 3 → S.ln l ≤ S.cp l ∧ (S.cp l = 0 ∨ 10 ≤ S.cp l ∧ S.cp l ≤ 200) := h.2.2.2.2.2.2.2.2
def Kl (G : Gx) (X : Nat → Prop) (w0 : Wd) (S : KS) (w : Wd) : Prop := (∀ k i, Lv S k i → w (S.ad k i) = some (kc G S k i)) ∧ (∀ k i k' i', Lv S k i → Lv S k' i' → S.ad k i = S.ad k' i' → k = k' ∧ i = i') ∧ (∀ k i, Lv S k i → (gH G).size ≤ S.ad k i) ∧ (∀ x, X x → w x = w0 x ∧ w0 x ≠ none ∧ ∀ k i, Lv S k i → S.ad k i ≠ x) ∧ (X (gE G) ∧ w0 (gE G) = some (eQ G 0 (fun _ => none))) ∧ (Cl S)
theorem Kl.at_ {G : Gx} {X : Nat → Prop} {w0 w : Wd} {S : KS} (h : Kl G X w0 S w) : ∀ k i, Lv S k i → w (S.ad k i) = some (kc G S k i) := h.1
theorem Kl.inj {G : Gx} {X : Nat → Prop} {w0 w : Wd} {S : KS} (h : Kl G X w0 S w) : ∀ k i k' i', Lv S k i → Lv S k' i' → S.ad k i = S.ad k' i' → k = k' ∧ i = i' := h.2.1
theorem Kl.base {G : Gx} {X : Nat → Prop} {w0 w : Wd} {S : KS} (h : Kl G X w0 S w) : ∀ k i, Lv S k i → (gH G).size ≤ S.ad k i := h.2.2.1
theorem Kl.X {G : Gx} {X : Nat → Prop} {w0 w : Wd} {S : KS} (h : Kl G X w0 S w) : ∀ x, X x → w x = w0 x ∧ w0 x ≠ none ∧ ∀ k i, Lv S k i → S.ad k i ≠ x := h.2.2.2.1
theorem Kl.E {G : Gx} {X : Nat → Prop} {w0 w : Wd} {S : KS} (h : Kl G X w0 S w) : X (gE G) ∧ w0 (gE G) = some (eQ G 0 (fun _ => none)) := h.2.2.2.2.1
theorem Kl.cl {G : Gx} {X : Nat → Prop} {w0 w : Wd} {S : KS} (h : Kl G X w0 S w) : Cl S := h.2.2.2.2.2
theorem Kl.step {G : Gx} {X : Nat → Prop} {w0 w : Wd} {S : KS} (h : Kl G X w0 S w) {S' : KS} {w' : Wd} (Nw : Nat → Nat → Prop)
    (ht : ∀ k i, Lv S' k i → w' (S'.ad k i) = some (kc G S' k i) ∧ ((Lv S k i ∧ S'.ad k i = S.ad k i) ∨ (w (S'.ad k i) = none ∧ (gH G).size ≤ S'.ad k i ∧ Nw k i)))
    (hn : ∀ k i k' i', Nw k i → Nw k' i' → S'.ad k i = S'.ad k' i' → k = k' ∧ i = i')
    (hX : ∀ x, X x → w' x = w x) (hc : Cl S') : Kl G X w0 S' w' := by
  have hno : ∀ k i k' i', Lv S k i → w (S'.ad k' i') = none → S.ad k i ≠ S'.ad k' i' := by
    intro k i k' i' h1 h2 e
    rw [← e, h.at_ k i h1] at h2
    cases h2
  unfold Kl
  refine ⟨fun k i hl => (ht k i hl).1, fun k i k' i' h1 h2 e => ?_, fun k i hl => ?_, fun x hx => ⟨(hX x hx).trans (h.X x hx).1, (h.X x hx).2.1, fun k i hl e => ?_⟩, h.E, hc⟩
  · rcases (ht k i h1).2 with ⟨a1, b1⟩ | ⟨a1, b1, c1⟩ <;> rcases (ht k' i' h2).2 with ⟨a2, b2⟩ | ⟨a2, b2, c2⟩
    · rw [b1, b2] at e; exact h.inj k i k' i' a1 a2 e
    · rw [b1] at e; exact absurd e (hno _ _ _ _ a1 a2)
    · rw [b2] at e; exact absurd e.symm (hno _ _ _ _ a2 a1)
    · exact hn _ _ _ _ c1 c2 e
  · rcases (ht k i hl).2 with ⟨a1, b1⟩ | ⟨a1, b1, c1⟩
    · rw [b1]; exact h.base k i a1
    · exact b1
  · rcases (ht k i hl).2 with ⟨a1, b1⟩ | ⟨a1, b1, c1⟩
    · rw [b1] at e; exact (h.X x hx).2.2 k i a1 e
    · rw [e, (h.X x hx).1] at a1
      exact (h.X x hx).2.1 a1
/-- the numbers of a cell are the same -/
def vsame (S S' : KS) (k i : Nat) : Prop := match k with
  | 0 => S'.day = S.day ∧ S'.kept = S.kept ∧ S'.oR = S.oR ∧ S'.oP = S.oP
  | 1 => True
  | 2 => S'.fm i = S.fm i
  | 3 => S'.mo i = S.mo i ∧ S'.cp i = S.cp i ∧ S'.ln i = S.ln i
  | 4 => S'.cp i = S.cp i ∧ S'.ln i = S.ln i ∧ ∀ j, j < S.ln i → ekI S' i j = ekI S i j
  | 5 => S'.rD i = S.rD i
  | 6 => S'.pS i = S.pS i ∧ S'.pC i = S.pC i
  | 7 => S'.pV i = S.pV i
  | 8 => S'.dR i = S.dR i ∧ S'.dI i = S.dI i
  | 9 => S'.rd i = S.rd i
  | 10 => S'.sp = S.sp
  | _ => S'.he = S.he
theorem lf_congr {n : Nat} {f g : Nat → Nat} (h : ∀ i, i < n → f i = g i) : lf n f = lf n g := by
  funext i
  unfold lf
  by_cases hi : i < n
  · rw [if_pos hi, if_pos hi, h i hi]
  · rw [if_neg hi, if_neg hi]
theorem ekK_lt (l : Nat) : ekK l < 12 ∧ ekK l ≠ 4 ∧ ekK l ≠ 3 := by
  rcases l with _ | _ | _ | _ | l
  · exact ⟨(by show 2 < 12; decide), (by show 2 ≠ 4; decide), (by show 2 ≠ 3; decide)⟩
  · exact ⟨(by show 5 < 12; decide), (by show 5 ≠ 4; decide), (by show 5 ≠ 3; decide)⟩
  · exact ⟨(by show 8 < 12; decide), (by show 8 ≠ 4; decide), (by show 8 ≠ 3; decide)⟩
  · exact ⟨(by show 9 < 12; decide), (by show 9 ≠ 4; decide), (by show 9 ≠ 3; decide)⟩
  · exact ⟨(by show 6 < 12; decide), (by show 6 ≠ 4; decide), (by show 6 ≠ 3; decide)⟩
theorem Cl.lvE {S : KS} (hc : Cl S) {l i : Nat} (hl : l < S.nn 3) (hi : i < S.ln l) : Lv S (ekK l) (ekI S l i) := ⟨(ekK_lt l).1, hc.el l i hl hi, fun e => absurd e (ekK_lt l).2.1⟩
theorem Cl.lvD {S : KS} (hc : Cl S) {l : Nat} (hl : l < S.nn 3) (hp : S.cp l ≠ 0) : Lv S 4 l := ⟨by decide, by rw [hc.c4]; exact hl, fun _ => hp⟩
theorem lvK {S : KS} {k i : Nat} (hk : k < 12) (h4 : k ≠ 4) (hi : i < S.nn k) : Lv S k i := ⟨hk, hi, fun e => absurd e h4⟩
theorem kc_ext {G : Gx} {S S' : KS} (hc : Cl S) (had : ∀ k i, Lv S k i → S'.ad k i = S.ad k i) {k i : Nat} (hl : Lv S k i) (hv : vsame S S' k i) : kc G S' k i = kc G S k i := by
  have c5 := hc.c5
  have c7 := hc.c7
  obtain ⟨c0, c1, c10, c11⟩ := hc.c0
  obtain ⟨hk, hi, h4⟩ := hl
  match k, hk, hi, h4, hv with
  | 0, _, hi, _, ⟨h1, h2, h3, h4⟩ =>
    show eO 6 [.int S'.day, .ref (S'.ad 1 0), .ref (S'.ad 3 0), .ref (S'.ad 3 1), .int S'.kept, .ref (S'.ad 5 S'.oR), .ref (S'.ad 6 S'.oP), .ref (S'.ad 3 2), .ref (S'.ad 3 3), .ref (S'.ad 10 0), .ref (S'.ad 11 0)] = _
    rw [h1, h2, h3, h4, had 1 0 (lvK (by decide) (by decide) (by omega)), had 3 0 (lvK (by decide) (by decide) (by omega)), had 3 1 (lvK (by decide) (by decide) (by omega)), had 3 2 (lvK (by decide) (by decide) (by omega)), had 3 3 (lvK (by decide) (by decide) (by omega)),
      had 5 _ (lvK (by decide) (by decide) hc.oR), had 6 _ (lvK (by decide) (by decide) hc.oP), had 10 0 (lvK (by decide) (by decide) (by omega)), had 11 0 (lvK (by decide) (by decide) (by omega))]
    rfl
  | 1, _, _, _, _ => rfl
  | 2, _, _, _, h1 =>
    have h1 : S'.fm i = S.fm i := h1
    show eFm (S'.fm i 0) (S'.fm i 1) (S'.fm i 2) = _
    rw [h1]; rfl
  | 3, _, hi, _, ⟨h1, h2, h3⟩ =>
    show eLs (S'.mo i) (ddK G S' i) (S'.ln i) = eLs (S.mo i) (ddK G S i) (S.ln i)
    rw [h1, h3]
    unfold ddK
    rw [h2]
    by_cases h0 : S.cp i = 0
    · rw [if_pos h0, if_pos h0]
    · rw [if_neg h0, if_neg h0, had 4 i (hc.lvD hi h0)]
  | 4, _, hi, _, ⟨h1, h2, h3⟩ =>
    show eQ G (S'.cp i) (lf (S'.ln i) (elK S' i)) = eQ G (S.cp i) (lf (S.ln i) (elK S i))
    rw [h1, h2]
    have hi3 : i < S.nn 3 := by rw [← hc.c4]; exact hi
    rw [lf_congr (g := elK S i) (fun j hj => by unfold elK; rw [h3 j hj]; exact had _ _ (hc.lvE hi3 hj))]
  | 5, _, hi, _, h1 =>
    have h1 : S'.rD i = S.rD i := h1
    show eRn (S'.ad 3 (i + 4)) (S'.rD i) = _
    have hi : i < S.nn 5 := hi
    rw [h1, had 3 (i + 4) (lvK (by decide) (by decide) (by omega))]; rfl
  | 6, _, hi, _, ⟨h1, h2⟩ =>
    show ePg (S'.ad 7 i) (nI (S'.pS i)) (S'.pC i) = _
    have hi : i < S.nn 6 := hi
    rw [h1, h2, had 7 i (lvK (by decide) (by decide) (by omega))]; rfl
  | 7, _, _, _, h1 =>
    have h1 : S'.pV i = S.pV i := h1
    show eI G 8 (S'.pV i) = _
    rw [h1]; rfl
  | 8, _, hi, _, ⟨h1, h2⟩ =>
    show eDc (S'.ad 5 (S'.dR i)) (S'.dI i 0) (S'.dI i 1) (S'.dI i 2) (S'.dI i 3) (S'.dI i 4) = _
    rw [h1, h2, had 5 _ (lvK (by decide) (by decide) (hc.dR i hi))]; rfl
  | 9, _, _, _, h1 =>
    have h1 : S'.rd i = S.rd i := h1
    show eRd (S'.rd i 0) (S'.rd i 1) (S'.rd i 2) (S'.rd i 3) = _
    rw [h1]; rfl
  | 10, _, _, _, h1 =>
    have h1 : S'.sp = S.sp := h1
    show eI G 4 S'.sp = _
    rw [h1]; rfl
  | 11, _, _, _, h1 =>
    have h1 : S'.he = S.he := h1
    show eZ G 100 S'.he = _
    rw [h1]; rfl
  | n + 12, hk, _, _, _ => exact absurd hk (by omega)
theorem Lv.congr {S S' : KS} (hn : S'.nn = S.nn) (hp : S'.cp = S.cp) {k i : Nat} : Lv S' k i ↔ Lv S k i := by unfold Lv; rw [hn, hp]
theorem Kl.put {G : Gx} {X : Nat → Prop} {w0 w : Wd} {S : KS} (h : Kl G X w0 S w) (S' : KS) (k i : Nat) (hl : Lv S k i) (ha : S'.ad = S.ad) (hn : S'.nn = S.nn) (hp : S'.cp = S.cp) (hc : Cl S')
    (hv : ∀ k' i', Lv S k' i' → (k' = k → i' ≠ i) → vsame S S' k' i') : Kl G X w0 S' (up w (S.ad k i) (kc G S' k i)) := by
  refine h.step (fun _ _ => False) (fun k' i' hl' => ?_) (fun _ _ _ _ z => z.elim) (fun x hx => up_n (fun e => (h.X x hx).2.2 k i hl e.symm)) hc
  have hl2 := (Lv.congr hn hp).mp hl'
  refine ⟨?_, Or.inl ⟨hl2, by rw [ha]⟩⟩
  rw [ha]
  by_cases e : k' = k ∧ i' = i
  · rw [e.1, e.2, up_s]
  · rw [up_n (fun z => e (h.inj _ _ _ _ hl2 hl z)), h.at_ _ _ hl2, kc_ext h.cl (fun _ _ _ => by rw [ha]) hl2 (hv _ _ hl2 (fun e1 e2 => e ⟨e1, e2⟩))]
def ad2 (f : Nat → Nat → Nat) (k i q : Nat) : Nat → Nat → Nat := fun k' i' => if k' = k ∧ i' = i then q else f k' i'
theorem ad2_s (f : Nat → Nat → Nat) (k i q : Nat) : ad2 f k i q k i = q := if_pos ⟨rfl, rfl⟩
theorem ad2_n {f : Nat → Nat → Nat} {k i q k' i' : Nat} (h : ¬ (k' = k ∧ i' = i)) : ad2 f k i q k' i' = f k' i' := if_neg h
theorem Kl.new1 {G : Gx} {X : Nat → Prop} {w0 w : Wd} {S : KS} (h : Kl G X w0 S w) (S' : KS) (k q : Nat) (ha : S'.ad = ad2 S.ad k (S.nn k) q)
    (hn : ∀ k' i', Lv S' k' i' → Lv S k' i' ∨ (k' = k ∧ i' = S.nn k)) (hc : Cl S') (hv : ∀ k' i', Lv S k' i' → vsame S S' k' i') (hq : w q = none) (hb : (gH G).size ≤ q) : Kl G X w0 S' (up w q (kc G S' k (S.nn k))) := by
  have hne : ∀ k' i', Lv S k' i' → S.ad k' i' ≠ q := fun k' i' hl e => by rw [← e, h.at_ _ _ hl] at hq; cases hq
  have hk0 : ∀ k' i', Lv S k' i' → ¬ (k' = k ∧ i' = S.nn k) := fun k' i' hl e => by
    have := hl.2.1
    rw [e.1, e.2] at this
    exact Nat.lt_irrefl _ this
  refine h.step (fun k' i' => k' = k ∧ i' = S.nn k) (fun k' i' hl' => ?_) (fun k1 i1 k2 i2 z1 z2 _ => ⟨z1.1.trans z2.1.symm, z1.2.trans z2.2.symm⟩) (fun x hx => up_n (fun e => ?_)) hc
  · by_cases e : k' = k ∧ i' = S.nn k
    · obtain ⟨rfl, e2⟩ := e
      rw [ha, e2, ad2_s, up_s]
      exact ⟨rfl, Or.inr ⟨hq, hb, rfl, rfl⟩⟩
    · rcases hn _ _ hl' with hl2 | hl2
      · rw [ha, ad2_n e, up_n (hne _ _ hl2), h.at_ _ _ hl2, kc_ext h.cl (fun k1 i1 z => by rw [ha, ad2_n (hk0 _ _ z)]) hl2 (hv _ _ hl2)]
        exact ⟨rfl, Or.inl ⟨hl2, rfl⟩⟩
      · exact absurd hl2 e
  · have h1 := (h.X x hx).1
    rw [e, hq] at h1
    exact (h.X x hx).2.1 (e ▸ h1.symm)

def KS.app (S : KS) (l dd cap : Nat) : KS := (((S.sad (ad2 S.ad 4 l dd)).scp (updN S.cp l cap)).sln (updN S.ln l (S.ln l + 1))).smo (upd S.mo l (S.mo l + 1))
theorem gcap_bounds {n : Nat} (h : n = 0 ∨ 10 ≤ n) (h2 : n ≤ 120) : 10 ≤ gcap n ∧ gcap n ≤ 200 ∧ n < gcap n ∧ gcap n ≤ 4 * (gcap n - n) := by
  have h1 := gcap_lt h
  unfold gcap at *
  split at h1 <;> rename_i h3 <;> (try rw [if_pos h3]) <;> (try rw [if_neg h3]) <;> omega
theorem Kl.dd {G : Gx} {X : Nat → Prop} {w0 w : Wd} {S : KS} (h : Kl G X w0 S w) {l : Nat} (hl : l < S.nn 3) : w (ddK G S l) = some (eQ G (S.cp l) (lf (S.ln l) (elK S l))) ∧ (S.cp l = 0 ∧ ddK G S l = gE G ∨ 10 ≤ S.cp l ∧ S.cp l ≤ 200 ∧ (gH G).size ≤ ddK G S l) := by
  by_cases h0 : S.cp l = 0
  · have hd : ddK G S l = gE G := if_pos h0
    have h1 := (h.cl.cp l hl).1
    refine ⟨?_, Or.inl ⟨h0, hd⟩⟩
    rw [hd, (h.X _ h.E.1).1, h.E.2, h0, show S.ln l = 0 by omega]
    have : (lf 0 (elK S l)) = (fun _ => none) := by funext i; unfold lf; rw [if_neg (Nat.not_lt_zero i)]
    rw [this]
  · have hd : ddK G S l = S.ad 4 l := if_neg h0
    have hlv := h.cl.lvD hl h0
    rw [hd]
    exact ⟨h.at_ 4 l hlv, Or.inr ⟨((h.cl.cp l hl).2.resolve_left h0).1, ((h.cl.cp l hl).2.resolve_left h0).2, h.base 4 l hlv⟩⟩
theorem va_up_s {f : Nat → Nat} {n v : Nat} : va_up f n v n = v := by unfold va_up; exact if_pos rfl
theorem va_up_n {f : Nat → Nat} {n v i : Nat} (h : i ≠ n) : va_up f n v i = f i := by unfold va_up; exact if_neg h
theorem ekI_app (S : KS) (l dd cap k i : Nat) : ekI (S.app l dd cap) k i = ekI S k i := by rcases k with _ | _ | _ | _ | k <;> rfl
theorem elK_app (S : KS) (l dd cap k i : Nat) : elK (S.app l dd cap) k i = elK S k i := by
  unfold elK
  rw [ekI_app]
  exact ad2_n (fun z => (ekK_lt k).2.1 z.1)
theorem Kl.add {G : Gx} {X : Nat → Prop} {w0 w w' : Wd} {S : KS} (h : Kl G X w0 S w) {l v : Nat} (hl : l < S.nn 3) (hm : S.ln l ≤ 120) (hv : v = elK S l (S.ln l)) (hv2 : ekI S l (S.ln l) < S.nn (ekK l))
    (hA : LAdd G w (S.ad 3 l) (ddK G S l) (S.cp l) (S.ln l) (elK S l) v (S.mo l + 1) w') : ∃ dd cap, Kl G X w0 (S.app l dd cap) w' ∧ gslot (S.ln l) (S.cp l) + 4 * S.cp l ≤ 4 * cap := by
  obtain ⟨dd, cap, hdc, hA1, hA2, hA3⟩ := hA
  obtain ⟨hd1, hd2⟩ := h.dd hl
  have hcp := h.cl.cp l hl
  have hcap0 : cap ≠ 0 := by
    rcases hdc with ⟨_, e, z⟩ | ⟨_, _, e, z⟩
    · omega
    · rw [z]; have := (gcap_bounds (n := S.cp l) (by omega) (by omega)).1; omega
  have hcapb : 10 ≤ cap ∧ cap ≤ 200 ∧ S.ln l + 1 ≤ cap := by
    rcases hdc with ⟨_, e, z⟩ | ⟨_, _, e, z⟩
    · omega
    · have := gcap_bounds (n := S.cp l) (by omega) (by omega); omega
  have hlv3 : Lv S 3 l := lvK (by decide) (by decide) hl
  -- the array's place: the old one of this list, or new
  have hdd : (S.cp l ≠ 0 ∧ dd = S.ad 4 l) ∨ (w dd = none ∧ (gH G).size ≤ dd) := by
    rcases hdc with ⟨e, e2, z⟩ | ⟨e, e2, _⟩
    · left
      have h0 : S.cp l ≠ 0 := by omega
      exact ⟨h0, by rw [e]; exact if_neg h0⟩
    · exact Or.inr ⟨e, e2⟩
  have hother : ∀ k i, Lv S k i → ¬ (k = 4 ∧ i = l) → S.ad k i ≠ dd := by
    intro k i hlv hn e
    rcases hdd with ⟨z, z2⟩ | ⟨z, _⟩
    · rw [z2] at e
      exact hn (h.inj _ _ _ _ hlv (h.cl.lvD hl z) e)
    · rw [← e, h.at_ _ _ hlv] at z; cases z
  have hX : ∀ x, X x → w' x = w x := by
    intro x hx
    refine hA3 x (fun e => (h.X x hx).2.2 3 l hlv3 e.symm) (fun e => ?_)
    rcases hdd with ⟨z, z2⟩ | ⟨z, _⟩
    · exact (h.X x hx).2.2 4 l (h.cl.lvD hl z) (z2.symm.trans e.symm)
    · have h1 := (h.X x hx).1
      rw [e, z] at h1
      exact (h.X x hx).2.1 (e ▸ h1.symm)
  have hlvS : ∀ k i, Lv (S.app l dd cap) k i → Lv S k i ∨ (k = 4 ∧ i = l) := by
    intro k i ⟨a, b, c⟩
    by_cases e : k = 4 ∧ i = l
    · exact Or.inr e
    · refine Or.inl ⟨a, b, fun e4 => ?_⟩
      have h9 : updN S.cp l cap i ≠ 0 := c e4
      unfold updN at h9
      rw [if_neg (fun z => e ⟨e4, z⟩)] at h9
      exact h9
  have hcl : Cl (S.app l dd cap) := by
    refine ⟨h.cl.c0, h.cl.c4, h.cl.c5, h.cl.c7, h.cl.oR, h.cl.oP, fun l' i hl' hi => ?_, h.cl.dR, fun l' hl' => ?_⟩
    · have hi : i < updN S.ln l (S.ln l + 1) l' := hi
      rw [ekI_app]
      unfold updN at hi
      by_cases e : l' = l
      · rw [if_pos e] at hi
        subst e
        rcases Nat.lt_succ_iff_lt_or_eq.mp hi with z | z
        · exact h.cl.el l' i hl' z
        · rw [z]; exact hv2
      · rw [if_neg e] at hi
        exact h.cl.el l' i hl' hi
    · show updN S.ln l (S.ln l + 1) l' ≤ updN S.cp l cap l' ∧ (updN S.cp l cap l' = 0 ∨ 10 ≤ updN S.cp l cap l' ∧ updN S.cp l cap l' ≤ 200)
      unfold updN
      by_cases e : l' = l
      · rw [if_pos e, if_pos e]; omega
      · rw [if_neg e, if_neg e]; exact h.cl.cp l' hl'
  refine ⟨dd, cap, h.step (fun k i => k = 4 ∧ i = l) (fun k i hl' => ?_) (fun k1 i1 k2 i2 z1 z2 _ => ⟨z1.1.trans z2.1.symm, z1.2.trans z2.2.symm⟩) hX hcl, ?_⟩
  · by_cases e4 : k = 4 ∧ i = l
    · obtain ⟨rfl, rfl⟩ := e4
      show w' (ad2 S.ad 4 i dd 4 i) = some (kc G (S.app i dd cap) 4 i) ∧ ((Lv S 4 i ∧ ad2 S.ad 4 i dd 4 i = S.ad 4 i) ∨ (w (ad2 S.ad 4 i dd 4 i) = none ∧ (gH G).size ≤ ad2 S.ad 4 i dd 4 i ∧ 4 = 4 ∧ i = i))
      rw [ad2_s]
      refine ⟨?_, ?_⟩
      · rw [hA2]
        show some (eQ G cap _) = some (eQ G (updN S.cp i cap i) (lf (updN S.ln i (S.ln i + 1) i) (elK (S.app i dd cap) i)))
        unfold updN
        rw [if_pos rfl, if_pos rfl]
        rw [lf_congr (f := va_up (elK S i) (S.ln i) v) (g := elK (S.app i dd cap) i) (fun j hj => ?_)]
        rw [elK_app]
        by_cases ej : j = S.ln i
        · rw [ej, va_up_s]; exact hv
        · exact va_up_n ej
      · rcases hdd with ⟨z, z2⟩ | ⟨z, z2⟩
        · exact Or.inl ⟨h.cl.lvD hl z, z2⟩
        · exact Or.inr ⟨z, z2, rfl, rfl⟩
    · have hlv : Lv S k i := (hlvS k i hl').resolve_right e4
      have had : ∀ k1 i1, ¬ (k1 = 4 ∧ i1 = l) → (S.app l dd cap).ad k1 i1 = S.ad k1 i1 := fun k1 i1 z => ad2_n z
      rw [had k i e4]
      refine ⟨?_, Or.inl ⟨hlv, rfl⟩⟩
      by_cases e3 : k = 3 ∧ i = l
      · obtain ⟨rfl, rfl⟩ := e3
        rw [hA1]
        show some (eO 0 [.int (S.mo i + 1), .ref dd, .int (nI (S.ln i + 1))]) = some (eLs (upd S.mo i (S.mo i + 1) i) (ddK G (S.app i dd cap) i) (updN S.ln i (S.ln i + 1) i))
        have e5 : ddK G (S.app i dd cap) i = dd := by
          show (if updN S.cp i cap i = 0 then gE G else ad2 S.ad 4 i dd 4 i) = dd
          unfold updN
          rw [if_pos rfl, if_neg hcap0, ad2_s]
        rw [e5]
        unfold upd updN
        rw [if_pos rfl, if_pos rfl]
      · rw [hA3 _ (fun z => e3 (h.inj _ _ _ _ hlv hlv3 z)) (hother _ _ hlv e4), h.at_ _ _ hlv]
        -- all other cells
        have hg : kc G (S.app l dd cap) k i = kc G S k i := by
          obtain ⟨hk, hi, h44⟩ := hlv
          match k, hk, hi, h44, e3, e4 with
          | 0, _, _, _, _, _ =>
            show eO 6 [.int S.day, .ref ((S.app l dd cap).ad 1 0), .ref ((S.app l dd cap).ad 3 0), .ref ((S.app l dd cap).ad 3 1), .int S.kept, .ref ((S.app l dd cap).ad 5 S.oR), .ref ((S.app l dd cap).ad 6 S.oP), .ref ((S.app l dd cap).ad 3 2), .ref ((S.app l dd cap).ad 3 3), .ref ((S.app l dd cap).ad 10 0), .ref ((S.app l dd cap).ad 11 0)] = _
            rw [had 1 0 (by omega), had 3 0 (by omega), had 3 1 (by omega), had 3 2 (by omega), had 3 3 (by omega), had 5 _ (by omega), had 6 _ (by omega), had 10 0 (by omega), had 11 0 (by omega)]
            rfl
          | 1, _, _, _, _, _ => rfl
          | 2, _, _, _, _, _ => rfl
          | 3, _, _, _, e3, _ =>
            have ei : ¬ i = l := fun z => e3 ⟨rfl, z⟩
            show eLs (upd S.mo l (S.mo l + 1) i) (ddK G (S.app l dd cap) i) (updN S.ln l (S.ln l + 1) i) = eLs (S.mo i) (ddK G S i) (S.ln i)
            have e5 : ddK G (S.app l dd cap) i = ddK G S i := by
              show (if updN S.cp l cap i = 0 then gE G else ad2 S.ad 4 l dd 4 i) = (if S.cp i = 0 then gE G else S.ad 4 i)
              rw [ad2_n (fun z => ei z.2)]
              unfold updN
              rw [if_neg ei]
            rw [e5]
            unfold upd updN
            rw [if_neg ei, if_neg ei]
          | 4, _, _, _, _, e4 =>
            have ei : ¬ i = l := fun z => e4 ⟨rfl, z⟩
            show eQ G (updN S.cp l cap i) (lf (updN S.ln l (S.ln l + 1) i) (elK (S.app l dd cap) i)) = eQ G (S.cp i) (lf (S.ln i) (elK S i))
            unfold updN
            rw [if_neg ei, if_neg ei, lf_congr (g := elK S i) (fun j hj => elK_app ..)]
          | 5, _, _, _, _, _ => show eRn ((S.app l dd cap).ad 3 (i + 4)) (S.rD i) = _; rw [had 3 _ (by omega)]; rfl
          | 6, _, _, _, _, _ => show ePg ((S.app l dd cap).ad 7 i) (nI (S.pS i)) (S.pC i) = _; rw [had 7 _ (by omega)]; rfl
          | 7, _, _, _, _, _ => rfl
          | 8, _, _, _, _, _ => show eDc ((S.app l dd cap).ad 5 (S.dR i)) (S.dI i 0) (S.dI i 1) (S.dI i 2) (S.dI i 3) (S.dI i 4) = _; rw [had 5 _ (by omega)]; rfl
          | 9, _, _, _, _, _ => rfl
          | 10, _, _, _, _, _ => rfl
          | 11, _, _, _, _, _ => rfl
          | n + 12, hk, _, _, _, _ => exact absurd hk (by omega)
        rw [hg]
  · unfold gslot
    rcases hdc with ⟨_, e, z⟩ | ⟨_, _, e, z⟩
    · rw [if_pos z]; omega
    · rw [if_neg (by omega), z]
      have := gcap_bounds (n := S.cp l) (by omega) (by omega)
      omega

