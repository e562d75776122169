/-! A world as a function (address to cell), and one judgement 'Go' over it: all that a method's walk needs is inside. -/
-- ===== the words that every state of the run keeps =====
def okW : Cond → Bool
  | .fieldLinkNest .. => true
  | .methodLinkNest .. => true
  | .castable .. => true
  | .declares .. => true
  | w => goodWord w
theorem okW_at {args a' : Array Value} {s U : State} (hW : s.WarmedH U.vm) {w : Cond} (hg : okW w = true) (h : w.before args s = true) : w.before a' U = true := by
  cases w with
  | fieldLinkNest a i b n d x => exact va_Nw.use rfl (va_Nw.warmF hW (va_Nw.of rfl h))
  | methodLinkNest a i x y => exact va_Nw.use rfl (va_Nw.warmM hW (va_Nw.of rfl h))
  | castable a b => exact va_Nw.use rfl (va_Nw.warmC hW (va_Nw.of rfl h))
  | declares x => exact va_Nw.use rfl (va_Nw.warmD hW (va_Nw.of rfl h))
  | _ => exact word_at hW (good_of_word hg) h
def tw : List Cond := lw_tbl.filter okW
theorem tw_in {w : Cond} (k : Nat) (h : tables_1[k]? = some w) (h2 : okW w = true) : w ∈ tw := List.mem_filter.mpr ⟨List.mem_append_right _ (List.mem_of_getElem? h), h2⟩
theorem tw_sel {w : Cond} (k : Nat) (h : (k2_sels lw_privs)[k]? = some w) (h2 : okW w = true) : w ∈ tw := List.mem_filter.mpr ⟨List.mem_append_left _ (List.mem_of_getElem? h), h2⟩
theorem tw_of {w : Cond} (h : w ∈ lw_tbl) (h2 : okW w = true) : w ∈ tw := List.mem_filter.mpr ⟨h, h2⟩
-- ===== worlds =====
abbrev Wd : Type := Nat → Option va_E
def up (w : Wd) (a : Nat) (e : va_E) : Wd := fun q => if q = a then some e else w q
theorem up_s (w : Wd) (a : Nat) (e : va_E) : up w a e a = some e := if_pos rfl
theorem up_n {w : Wd} {a b : Nat} {e : va_E} (h : b ≠ a) : up w a e b = w b := if_neg h
/-- what is fixed in one run: launch, classes and slots, the classes of int[], boolean[], long[], Object[], the heap at the law's start, the empty array, Object[]'s class object -/
abbrev Gx : Type := Launch × va_G × (ClassId × ClassId × ClassId × ClassId) × Heap × Nat × Nat
def gD (G : Gx) : va_G := G.2.1
def gI (G : Gx) : ClassId := G.2.2.1.1
def gZ (G : Gx) : ClassId := G.2.2.1.2.1
def gJ (G : Gx) : ClassId := G.2.2.1.2.2.1
def gO (G : Gx) : ClassId := G.2.2.1.2.2.2
def gH (G : Gx) : Heap := G.2.2.2.1
def gE (G : Gx) : Nat := G.2.2.2.2.1
def gM (G : Gx) : Nat := G.2.2.2.2.2
def gty (G : Gx) : List (ClassId × FieldType) := [(gI G, .int), (gZ G, .boolean), (gJ G, .long), (gO G, .object "java/lang/Object")]
def gA (G : Gx) : Nat → Prop := fun q => (gH G).size ≤ q
abbrev eO (ci : Nat) (fs : List Value) : va_E := .inr (ci, fs)
abbrev eI (G : Gx) (n : Nat) (f : Nat → Int32) : va_E := .inl (gI G, n, .inl f)
abbrev eZ (G : Gx) (n : Nat) (f : Nat → Int32) : va_E := .inl (gZ G, n, .inl f)
abbrev eJ (G : Gx) (n : Nat) (f : Nat → Int64) : va_E := .inl (gJ G, n, .inr (.inl f))
abbrev eQ (G : Gx) (n : Nat) (f : Nat → Option Nat) : va_E := .inl (gO G, n, .inr (.inr (.inr (.inr f))))
/-- an array that was there before the run: its class, its contents, an ordinary cell -/
def olA (cA : ClassId) (y : vp_A) (a : Nat) (H : Heap) : Prop := ∃ cell : Cell, H[a]? = some cell ∧ cell.cls = cA ∧ cell.slots = (vp_cell cA y).slots ∧ cell.vm.isStatics = false ∧ cell.vm ≠ .unknown
def loE (G : Gx) (a : Nat) (e : va_E) (H : Heap) : Prop := va_at (gD G) vwCl (a, e) H ∨ (a < (gH G).size ∧ ∃ (cA : ClassId) (y : vp_A), e = .inl (cA, y) ∧ olA cA y a H)
theorem loE.kept {G : Gx} {a : Nat} {e : va_E} {H H1 : Heap} (h : loE G a e H) (hq : H1[a]? = H[a]?) : loE G a e H1 := by
  rcases h with h | ⟨h1, cA, y, h2, cell, h3, h4⟩
  · exact Or.inl (h.kept hq)
  · exact Or.inr ⟨h1, cA, y, h2, cell, hq.trans h3, h4⟩
theorem loE.lt {G : Gx} {a : Nat} {e : va_E} {H : Heap} (h : loE G a e H) : a < H.size := by
  rcases h with h | ⟨h1, cA, y, h2, cell, h3, h4⟩
  · exact h.lt
  · exact (Array.getElem?_eq_some_iff.mp h3).1
def Rel (G : Gx) (w : Wd) (H : Heap) : Prop := ∀ a e, w a = some e → loE G a e H
theorem Rel.o {G : Gx} {w : Wd} {H : Heap} {a : Nat} {o : Nat × List Value} (h : Rel G w H) (hw : w a = some (.inr o)) : va_at (gD G) vwCl (a, .inr o) H := by
  rcases h _ _ hw with h | ⟨_, cA, y, h2, _⟩
  · exact h
  · cases h2
theorem Rel.s {G : Gx} {w : Wd} {H : Heap} {a : Nat} {e : va_E} (h : Rel G w H) (hw : w a = some e) (ha : (gH G).size ≤ a) : va_at (gD G) vwCl (a, e) H := by
  rcases h _ _ hw with h | ⟨h1, _⟩
  · exact h
  · exact absurd h1 (Nat.not_lt.mpr ha)
theorem Rel.c {G : Gx} {w : Wd} {H : Heap} {a : Nat} {cA : ClassId} {y : vp_A} (h : Rel G w H) (hw : w a = some (.inl (cA, y))) : olA cA y a H := by
  rcases h _ _ hw with h | ⟨_, cA', y', h2, h3⟩
  · obtain ⟨n, f | f | f | f | f⟩ := y
    · exact ⟨_, h, rfl, rfl, rfl, fun q => by cases q⟩
    · exact ⟨_, h, rfl, rfl, rfl, fun q => by cases q⟩
    · exact ⟨_, h, rfl, rfl, rfl, fun q => by cases q⟩
    · exact ⟨_, h, rfl, rfl, rfl, fun q => by cases q⟩
    · exact ⟨_, h, rfl, rfl, rfl, fun q => by cases q⟩
  · cases h2
    exact h3
theorem ol_arr {s : State} {cell : Cell} {cA : ClassId} {n : Nat} {f : Nat → Value} {ty : FieldType} (h : s.isArrayOf (arrV cA n f) ty) (hc : cell.cls = cA) (hs : cell.vm.isStatics = false) : s.isArrayOf cell ty :=
  ⟨fun k e => (by rw [e] at hs; cases hs), by rw [hc]; exact h.2⟩
theorem Rel.put {G : Gx} {w : Wd} {a : Nat} {e : va_E} {H H1 : Heap} (h : Rel G w H) (he : va_at (gD G) vwCl (a, e) H1) (oq : ∀ q : Nat, q ≠ a → H1[q]? = H[q]?) : Rel G (up w a e) H1 := by
  intro b e' hb
  by_cases hq : b = a
  · subst hq
    rw [up_s] at hb
    cases hb
    exact Or.inl he
  · rw [up_n hq] at hb
    exact (h b e' hb).kept (oq b hq)
theorem Rel.fresh {G : Gx} {w : Wd} {H : Heap} (h : Rel G w H) : w H.size = none := by
  cases hw : w H.size with
  | none => rfl
  | some e => exact absurd (h _ e hw).lt (Nat.lt_irrefl _)
theorem Rel.push {G : Gx} {w : Wd} {e : va_E} {H H1 : Heap} (h : Rel G w H) (he : va_at (gD G) vwCl (H.size, e) H1) (o1 : ∀ q : Nat, q < H.size → H1[q]? = H[q]?) : Rel G (up w H.size e) H1 := by
  intro b e' hb
  by_cases hq : b = H.size
  · subst hq
    rw [up_s] at hb
    cases hb
    exact Or.inl he
  · rw [up_n hq] at hb
    exact (h b e' hb).kept (o1 b (h b e' hb).lt)
theorem Rel.kept {G : Gx} {w : Wd} {H H1 : Heap} (h : Rel G w H) (o1 : ∀ q : Nat, q < H.size → H1[q]? = H[q]?) : Rel G w H1 := fun b e' hb => (h b e' hb).kept (o1 b (h b e' hb).lt)
-- ===== what every state of the run knows =====
def nc_all : List (String × String) := [("java/lang/IllegalStateException", "java/lang/IllegalArgumentException"), ("java/lang/IllegalArgumentException", "java/lang/IndexOutOfBoundsException"), ("java/lang/IndexOutOfBoundsException", "java/lang/IllegalArgumentException"), ("java/util/NoSuchElementException", "java/lang/IllegalArgumentException"), ("java/util/NoSuchElementException", "java/lang/IndexOutOfBoundsException")]
def GK (G : Gx) (U : State) : Prop :=
  (∀ w ∈ tw, ∀ a : Array Value, w.before a U = true) ∧ va_K (gD G) vwCl (gty G) U ∧
  (∀ (own tx : String) (k : Nat), Cond.stringRef own k tx ∈ tables_1 → ∃ sa : Nat, vk_R own k tx sa U) ∧
  (∀ q ∈ nc_all, va_Nc q.1 q.2 U) ∧
  vx_Zq Bundle.tN "UNASSIGNED_STACK" Bundle.steD (gA G) U (gH G) ∧ vx_Zq Bundle.tN "SUPPRESSED_SENTINEL" Bundle.listD (gA G) U (gH G) ∧
  va_Z "java/util/ArrayList" "DEFAULTCAPACITY_EMPTY_ELEMENTDATA" "[Ljava/lang/Object;" (.ref (gE G)) (gA G) U (gH G) ∧
  va_Mi "[Ljava/lang/Object;" (gM G) U ∧ va_AO "java/lang/Object" U ∧ va_Nw (.sameField "java/util/ArrayList" "java/util/AbstractList" "modCount" "I") U ∧ G.1.stackTraces = false
def BaseOk (G : Gx) (H : Heap) : Prop := (gH G).size ≤ H.size ∧ ∀ q : Nat, q < (gH G).size → H[q]? = (gH G)[q]?
theorem zz_fr : True := trivial
