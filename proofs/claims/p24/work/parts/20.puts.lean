/-! Puts, new objects and list adds over the keeper's heap; constructors. -/
abbrev kp (S : KS) : List Value := [.int S.day, .ref (S.ad 1 0), .ref (S.ad 3 0), .ref (S.ad 3 1), .int S.kept, .ref (S.ad 5 S.oR), .ref (S.ad 6 S.oP), .ref (S.ad 3 2), .ref (S.ad 3 3), .ref (S.ad 10 0), .ref (S.ad 11 0)]
def upd2 (f : Nat → Nat → Int32) (i k : Nat) (x : Int32) : Nat → Nat → Int32 := fun q => if q = i then upd (f i) k x else f q
theorem upd2_s (f : Nat → Nat → Int32) (i k : Nat) (x : Int32) : upd2 f i k x i = upd (f i) k x := if_pos rfl
theorem upd2_n {f : Nat → Nat → Int32} {i k : Nat} {x : Int32} {q : Nat} (h : q ≠ i) : upd2 f i k x q = f q := if_neg h
theorem upd_s (f : Nat → Int32) (i : Nat) (x : Int32) : upd f i x i = x := by unfold upd; exact if_pos rfl
theorem upd_n {f : Nat → Int32} {i : Nat} {x : Int32} {q : Nat} (h : q ≠ i) : upd f i x q = f q := by unfold upd; exact if_neg h
theorem updN_s (f : Nat → Nat) (i : Nat) (x : Nat) : updN f i x i = x := if_pos rfl
theorem updN_n {f : Nat → Nat} {i : Nat} {x : Nat} {q : Nat} (h : q ≠ i) : updN f i x q = f q := if_neg h
theorem Kl.to {G : Gx} {X : Nat → Prop} {w0 w w' : Wd} {S : KS} (h : Kl G X w0 S w) (e : w' = w) : Kl G X w0 S w' := by rw [e]; exact h
theorem Kl.pDay {G : Gx} {X : Nat → Prop} {w0 w : Wd} {S : KS} (hK : Kl G X w0 S w) (v : Int32) : Kl G X w0 (S.sday v) (up w (S.ad 0 0) (eO 6 (kp (S.sday v)))) :=
  hK.put (S.sday v) 0 0 hK.l0 rfl rfl rfl (hK.cl) (fun k1 i1 hl1 hn1 => match k1, hl1, hn1 with
    | 0, hl1, hn1 => absurd (by have h9 : i1 < S.nn 0 := hl1.2.1; rw [hK.cl.c0.1] at h9; omega) (hn1 rfl)
    | 1, hl1, hn1 => trivial
    | 2, hl1, hn1 => rfl
    | 3, hl1, hn1 => ⟨rfl, rfl, rfl⟩
    | 4, hl1, hn1 => ⟨rfl, rfl, fun _ _ => rfl⟩
    | 5, hl1, hn1 => rfl
    | 6, hl1, hn1 => ⟨rfl, rfl⟩
    | 7, hl1, hn1 => rfl
    | 8, hl1, hn1 => ⟨rfl, rfl⟩
    | 9, hl1, hn1 => rfl
    | 10, hl1, hn1 => rfl
    | n + 11, hl1, hn1 => rfl)
theorem Kl.pKept {G : Gx} {X : Nat → Prop} {w0 w : Wd} {S : KS} (hK : Kl G X w0 S w) (v : Int32) : Kl G X w0 (S.skept v) (up w (S.ad 0 0) (eO 6 (kp (S.skept v)))) :=
  hK.put (S.skept v) 0 0 hK.l0 rfl rfl rfl (hK.cl) (fun k1 i1 hl1 hn1 => match k1, hl1, hn1 with
    | 0, hl1, hn1 => absurd (by have h9 : i1 < S.nn 0 := hl1.2.1; rw [hK.cl.c0.1] at h9; omega) (hn1 rfl)
    | 1, hl1, hn1 => trivial
    | 2, hl1, hn1 => rfl
    | 3, hl1, hn1 => ⟨rfl, rfl, rfl⟩
    | 4, hl1, hn1 => ⟨rfl, rfl, fun _ _ => rfl⟩
    | 5, hl1, hn1 => rfl
    | 6, hl1, hn1 => ⟨rfl, rfl⟩
    | 7, hl1, hn1 => rfl
    | 8, hl1, hn1 => ⟨rfl, rfl⟩
    | 9, hl1, hn1 => rfl
    | 10, hl1, hn1 => rfl
    | n + 11, hl1, hn1 => rfl)
theorem Kl.pOR {G : Gx} {X : Nat → Prop} {w0 w : Wd} {S : KS} (hK : Kl G X w0 S w) {r : Nat} (hr : r < S.nn 5) : Kl G X w0 (S.soR r) (up w (S.ad 0 0) (eO 6 (kp (S.soR r)))) :=
  hK.put (S.soR r) 0 0 hK.l0 rfl rfl rfl (⟨hK.cl.c0, hK.cl.c4, hK.cl.c5, hK.cl.c7, hr, hK.cl.oP, hK.cl.el, hK.cl.dR, hK.cl.cp⟩) (fun k1 i1 hl1 hn1 => match k1, hl1, hn1 with
    | 0, hl1, hn1 => absurd (by have h9 : i1 < S.nn 0 := hl1.2.1; rw [hK.cl.c0.1] at h9; omega) (hn1 rfl)
    | 1, hl1, hn1 => trivial
    | 2, hl1, hn1 => rfl
    | 3, hl1, hn1 => ⟨rfl, rfl, rfl⟩
    | 4, hl1, hn1 => ⟨rfl, rfl, fun _ _ => rfl⟩
    | 5, hl1, hn1 => rfl
    | 6, hl1, hn1 => ⟨rfl, rfl⟩
    | 7, hl1, hn1 => rfl
    | 8, hl1, hn1 => ⟨rfl, rfl⟩
    | 9, hl1, hn1 => rfl
    | 10, hl1, hn1 => rfl
    | n + 11, hl1, hn1 => rfl)
theorem Kl.pOP {G : Gx} {X : Nat → Prop} {w0 w : Wd} {S : KS} (hK : Kl G X w0 S w) {r : Nat} (hr : r < S.nn 6) : Kl G X w0 (S.soP r) (up w (S.ad 0 0) (eO 6 (kp (S.soP r)))) :=
  hK.put (S.soP r) 0 0 hK.l0 rfl rfl rfl (⟨hK.cl.c0, hK.cl.c4, hK.cl.c5, hK.cl.c7, hK.cl.oR, hr, hK.cl.el, hK.cl.dR, hK.cl.cp⟩) (fun k1 i1 hl1 hn1 => match k1, hl1, hn1 with
    | 0, hl1, hn1 => absurd (by have h9 : i1 < S.nn 0 := hl1.2.1; rw [hK.cl.c0.1] at h9; omega) (hn1 rfl)
    | 1, hl1, hn1 => trivial
    | 2, hl1, hn1 => rfl
    | 3, hl1, hn1 => ⟨rfl, rfl, rfl⟩
    | 4, hl1, hn1 => ⟨rfl, rfl, fun _ _ => rfl⟩
    | 5, hl1, hn1 => rfl
    | 6, hl1, hn1 => ⟨rfl, rfl⟩
    | 7, hl1, hn1 => rfl
    | 8, hl1, hn1 => ⟨rfl, rfl⟩
    | 9, hl1, hn1 => rfl
    | 10, hl1, hn1 => rfl
    | n + 11, hl1, hn1 => rfl)
theorem Kl.pRD {G : Gx} {X : Nat → Prop} {w0 w : Wd} {S : KS} (hK : Kl G X w0 S w) {i : Nat} (hi : i < S.nn 5) (v : Int32) : Kl G X w0 (S.srD (upd S.rD i v)) (up w (S.ad 5 i) (eRn (S.ad 3 (i + 4)) v)) := by
  have h := hK.put (S.srD (upd S.rD i v)) 5 i (lvK (by decide) (by decide) hi) rfl rfl rfl hK.cl (fun k1 i1 hl1 hn1 => match k1, hl1, hn1 with
    | 0, hl1, hn1 => ⟨rfl, rfl, rfl, rfl⟩
    | 1, hl1, hn1 => trivial
    | 2, hl1, hn1 => rfl
    | 3, hl1, hn1 => ⟨rfl, rfl, rfl⟩
    | 4, hl1, hn1 => ⟨rfl, rfl, fun _ _ => rfl⟩
    | 5, hl1, hn1 => upd_n (hn1 rfl)
    | 6, hl1, hn1 => ⟨rfl, rfl⟩
    | 7, hl1, hn1 => rfl
    | 8, hl1, hn1 => ⟨rfl, rfl⟩
    | 9, hl1, hn1 => rfl
    | 10, hl1, hn1 => rfl
    | n + 11, hl1, hn1 => rfl)
  have e : kc G (S.srD (upd S.rD i v)) 5 i = eRn (S.ad 3 (i + 4)) v := by
    show eRn (S.ad 3 (i + 4)) (upd S.rD i v i) = eRn (S.ad 3 (i + 4)) v
    rw [upd_s]
  rw [e] at h
  exact h
theorem Kl.pPS {G : Gx} {X : Nat → Prop} {w0 w : Wd} {S : KS} (hK : Kl G X w0 S w) {i : Nat} (hi : i < S.nn 6) (n : Nat) : Kl G X w0 (S.spS (updN S.pS i n)) (up w (S.ad 6 i) (ePg (S.ad 7 i) (nI n) (S.pC i))) := by
  have h := hK.put (S.spS (updN S.pS i n)) 6 i (lvK (by decide) (by decide) hi) rfl rfl rfl hK.cl (fun k1 i1 hl1 hn1 => match k1, hl1, hn1 with
    | 0, hl1, hn1 => ⟨rfl, rfl, rfl, rfl⟩
    | 1, hl1, hn1 => trivial
    | 2, hl1, hn1 => rfl
    | 3, hl1, hn1 => ⟨rfl, rfl, rfl⟩
    | 4, hl1, hn1 => ⟨rfl, rfl, fun _ _ => rfl⟩
    | 5, hl1, hn1 => rfl
    | 6, hl1, hn1 => ⟨updN_n (hn1 rfl), rfl⟩
    | 7, hl1, hn1 => rfl
    | 8, hl1, hn1 => ⟨rfl, rfl⟩
    | 9, hl1, hn1 => rfl
    | 10, hl1, hn1 => rfl
    | n + 11, hl1, hn1 => rfl)
  have e : kc G (S.spS (updN S.pS i n)) 6 i = ePg (S.ad 7 i) (nI n) (S.pC i) := by
    show ePg (S.ad 7 i) (nI (updN S.pS i n i)) (S.pC i) = ePg (S.ad 7 i) (nI n) (S.pC i)
    rw [updN_s]
  rw [e] at h
  exact h
theorem Kl.pPC {G : Gx} {X : Nat → Prop} {w0 w : Wd} {S : KS} (hK : Kl G X w0 S w) {i : Nat} (hi : i < S.nn 6) (v : Int32) : Kl G X w0 (S.spC (upd S.pC i v)) (up w (S.ad 6 i) (ePg (S.ad 7 i) (nI (S.pS i)) v)) := by
  have h := hK.put (S.spC (upd S.pC i v)) 6 i (lvK (by decide) (by decide) hi) rfl rfl rfl hK.cl (fun k1 i1 hl1 hn1 => match k1, hl1, hn1 with
    | 0, hl1, hn1 => ⟨rfl, rfl, rfl, rfl⟩
    | 1, hl1, hn1 => trivial
    | 2, hl1, hn1 => rfl
    | 3, hl1, hn1 => ⟨rfl, rfl, rfl⟩
    | 4, hl1, hn1 => ⟨rfl, rfl, fun _ _ => rfl⟩
    | 5, hl1, hn1 => rfl
    | 6, hl1, hn1 => ⟨rfl, upd_n (hn1 rfl)⟩
    | 7, hl1, hn1 => rfl
    | 8, hl1, hn1 => ⟨rfl, rfl⟩
    | 9, hl1, hn1 => rfl
    | 10, hl1, hn1 => rfl
    | n + 11, hl1, hn1 => rfl)
  have e : kc G (S.spC (upd S.pC i v)) 6 i = ePg (S.ad 7 i) (nI (S.pS i)) v := by
    show ePg (S.ad 7 i) (nI (S.pS i)) (upd S.pC i v i) = ePg (S.ad 7 i) (nI (S.pS i)) v
    rw [upd_s]
  rw [e] at h
  exact h
theorem Kl.pPV {G : Gx} {X : Nat → Prop} {w0 w : Wd} {S : KS} (hK : Kl G X w0 S w) {i : Nat} (hi : i < S.nn 7) (k : Nat) (v : Int32) : Kl G X w0 (S.spV (upd2 S.pV i k v)) (up w (S.ad 7 i) (eI G 8 (upd (S.pV i) k v))) := by
  have h := hK.put (S.spV (upd2 S.pV i k v)) 7 i (lvK (by decide) (by decide) hi) rfl rfl rfl hK.cl (fun k1 i1 hl1 hn1 => match k1, hl1, hn1 with
    | 0, hl1, hn1 => ⟨rfl, rfl, rfl, rfl⟩
    | 1, hl1, hn1 => trivial
    | 2, hl1, hn1 => rfl
    | 3, hl1, hn1 => ⟨rfl, rfl, rfl⟩
    | 4, hl1, hn1 => ⟨rfl, rfl, fun _ _ => rfl⟩
    | 5, hl1, hn1 => rfl
    | 6, hl1, hn1 => ⟨rfl, rfl⟩
    | 7, hl1, hn1 => upd2_n (hn1 rfl)
    | 8, hl1, hn1 => ⟨rfl, rfl⟩
    | 9, hl1, hn1 => rfl
    | 10, hl1, hn1 => rfl
    | n + 11, hl1, hn1 => rfl)
  have e : kc G (S.spV (upd2 S.pV i k v)) 7 i = eI G 8 (upd (S.pV i) k v) := by
    show eI G 8 (upd2 S.pV i k v i) = eI G 8 (upd (S.pV i) k v)
    rw [upd2_s]
  rw [e] at h
  exact h
theorem Kl.pLen {G : Gx} {X : Nat → Prop} {w0 w : Wd} {S : KS} (hK : Kl G X w0 S w) {i : Nat} (hi : i < S.nn 8) (v : Int32) : Kl G X w0 (S.sdI (upd2 S.dI i 3 v)) (up w (S.ad 8 i) (eDc (S.ad 5 (S.dR i)) (S.dI i 0) (S.dI i 1) (S.dI i 2) v (S.dI i 4))) := by
  have h := hK.put (S.sdI (upd2 S.dI i 3 v)) 8 i (lvK (by decide) (by decide) hi) rfl rfl rfl hK.cl (fun k1 i1 hl1 hn1 => match k1, hl1, hn1 with
    | 0, hl1, hn1 => ⟨rfl, rfl, rfl, rfl⟩
    | 1, hl1, hn1 => trivial
    | 2, hl1, hn1 => rfl
    | 3, hl1, hn1 => ⟨rfl, rfl, rfl⟩
    | 4, hl1, hn1 => ⟨rfl, rfl, fun _ _ => rfl⟩
    | 5, hl1, hn1 => rfl
    | 6, hl1, hn1 => ⟨rfl, rfl⟩
    | 7, hl1, hn1 => rfl
    | 8, hl1, hn1 => ⟨rfl, upd2_n (hn1 rfl)⟩
    | 9, hl1, hn1 => rfl
    | 10, hl1, hn1 => rfl
    | n + 11, hl1, hn1 => rfl)
  have e : kc G (S.sdI (upd2 S.dI i 3 v)) 8 i = eDc (S.ad 5 (S.dR i)) (S.dI i 0) (S.dI i 1) (S.dI i 2) v (S.dI i 4) := by
    show eDc (S.ad 5 (S.dR i)) (upd2 S.dI i 3 v i 0) (upd2 S.dI i 3 v i 1) (upd2 S.dI i 3 v i 2) (upd2 S.dI i 3 v i 3) (upd2 S.dI i 3 v i 4) = eDc (S.ad 5 (S.dR i)) (S.dI i 0) (S.dI i 1) (S.dI i 2) v (S.dI i 4)
    rw [upd2_s, upd_s, upd_n (show 0 ≠ 3 by decide), upd_n (show 1 ≠ 3 by decide), upd_n (show 2 ≠ 3 by decide), upd_n (show 4 ≠ 3 by decide)]
  rw [e] at h
  exact h
theorem Kl.pGone {G : Gx} {X : Nat → Prop} {w0 w : Wd} {S : KS} (hK : Kl G X w0 S w) {i : Nat} (hi : i < S.nn 8) (v : Int32) : Kl G X w0 (S.sdI (upd2 S.dI i 4 v)) (up w (S.ad 8 i) (eDc (S.ad 5 (S.dR i)) (S.dI i 0) (S.dI i 1) (S.dI i 2) (S.dI i 3) v)) := by
  have h := hK.put (S.sdI (upd2 S.dI i 4 v)) 8 i (lvK (by decide) (by decide) hi) rfl rfl rfl hK.cl (fun k1 i1 hl1 hn1 => match k1, hl1, hn1 with
    | 0, hl1, hn1 => ⟨rfl, rfl, rfl, rfl⟩
    | 1, hl1, hn1 => trivial
    | 2, hl1, hn1 => rfl
    | 3, hl1, hn1 => ⟨rfl, rfl, rfl⟩
    | 4, hl1, hn1 => ⟨rfl, rfl, fun _ _ => rfl⟩
    | 5, hl1, hn1 => rfl
    | 6, hl1, hn1 => ⟨rfl, rfl⟩
    | 7, hl1, hn1 => rfl
    | 8, hl1, hn1 => ⟨rfl, upd2_n (hn1 rfl)⟩
    | 9, hl1, hn1 => rfl
    | 10, hl1, hn1 => rfl
    | n + 11, hl1, hn1 => rfl)
  have e : kc G (S.sdI (upd2 S.dI i 4 v)) 8 i = eDc (S.ad 5 (S.dR i)) (S.dI i 0) (S.dI i 1) (S.dI i 2) (S.dI i 3) v := by
    show eDc (S.ad 5 (S.dR i)) (upd2 S.dI i 4 v i 0) (upd2 S.dI i 4 v i 1) (upd2 S.dI i 4 v i 2) (upd2 S.dI i 4 v i 3) (upd2 S.dI i 4 v i 4) = eDc (S.ad 5 (S.dR i)) (S.dI i 0) (S.dI i 1) (S.dI i 2) (S.dI i 3) v
    rw [upd2_s, upd_s, upd_n (show 0 ≠ 4 by decide), upd_n (show 1 ≠ 4 by decide), upd_n (show 2 ≠ 4 by decide), upd_n (show 3 ≠ 4 by decide)]
  rw [e] at h
  exact h
theorem Kl.pRd1 {G : Gx} {X : Nat → Prop} {w0 w : Wd} {S : KS} (hK : Kl G X w0 S w) {i : Nat} (hi : i < S.nn 9) (v : Int32) : Kl G X w0 (S.srd (upd2 S.rd i 1 v)) (up w (S.ad 9 i) (eRd (S.rd i 0) v (S.rd i 2) (S.rd i 3))) := by
  have h := hK.put (S.srd (upd2 S.rd i 1 v)) 9 i (lvK (by decide) (by decide) hi) rfl rfl rfl hK.cl (fun k1 i1 hl1 hn1 => match k1, hl1, hn1 with
    | 0, hl1, hn1 => ⟨rfl, rfl, rfl, rfl⟩
    | 1, hl1, hn1 => trivial
    | 2, hl1, hn1 => rfl
    | 3, hl1, hn1 => ⟨rfl, rfl, rfl⟩
    | 4, hl1, hn1 => ⟨rfl, rfl, fun _ _ => rfl⟩
    | 5, hl1, hn1 => rfl
    | 6, hl1, hn1 => ⟨rfl, rfl⟩
    | 7, hl1, hn1 => rfl
    | 8, hl1, hn1 => ⟨rfl, rfl⟩
    | 9, hl1, hn1 => upd2_n (hn1 rfl)
    | 10, hl1, hn1 => rfl
    | n + 11, hl1, hn1 => rfl)
  have e : kc G (S.srd (upd2 S.rd i 1 v)) 9 i = eRd (S.rd i 0) v (S.rd i 2) (S.rd i 3) := by
    show eRd (upd2 S.rd i 1 v i 0) (upd2 S.rd i 1 v i 1) (upd2 S.rd i 1 v i 2) (upd2 S.rd i 1 v i 3) = eRd (S.rd i 0) v (S.rd i 2) (S.rd i 3)
    rw [upd2_s, upd_s, upd_n (show 0 ≠ 1 by decide), upd_n (show 2 ≠ 1 by decide), upd_n (show 3 ≠ 1 by decide)]
  rw [e] at h
  exact h
theorem Kl.pRd2 {G : Gx} {X : Nat → Prop} {w0 w : Wd} {S : KS} (hK : Kl G X w0 S w) {i : Nat} (hi : i < S.nn 9) (v : Int32) : Kl G X w0 (S.srd (upd2 S.rd i 2 v)) (up w (S.ad 9 i) (eRd (S.rd i 0) (S.rd i 1) v (S.rd i 3))) := by
  have h := hK.put (S.srd (upd2 S.rd i 2 v)) 9 i (lvK (by decide) (by decide) hi) rfl rfl rfl hK.cl (fun k1 i1 hl1 hn1 => match k1, hl1, hn1 with
    | 0, hl1, hn1 => ⟨rfl, rfl, rfl, rfl⟩
    | 1, hl1, hn1 => trivial
    | 2, hl1, hn1 => rfl
    | 3, hl1, hn1 => ⟨rfl, rfl, rfl⟩
    | 4, hl1, hn1 => ⟨rfl, rfl, fun _ _ => rfl⟩
    | 5, hl1, hn1 => rfl
    | 6, hl1, hn1 => ⟨rfl, rfl⟩
    | 7, hl1, hn1 => rfl
    | 8, hl1, hn1 => ⟨rfl, rfl⟩
    | 9, hl1, hn1 => upd2_n (hn1 rfl)
    | 10, hl1, hn1 => rfl
    | n + 11, hl1, hn1 => rfl)
  have e : kc G (S.srd (upd2 S.rd i 2 v)) 9 i = eRd (S.rd i 0) (S.rd i 1) v (S.rd i 3) := by
    show eRd (upd2 S.rd i 2 v i 0) (upd2 S.rd i 2 v i 1) (upd2 S.rd i 2 v i 2) (upd2 S.rd i 2 v i 3) = eRd (S.rd i 0) (S.rd i 1) v (S.rd i 3)
    rw [upd2_s, upd_s, upd_n (show 0 ≠ 2 by decide), upd_n (show 1 ≠ 2 by decide), upd_n (show 3 ≠ 2 by decide)]
  rw [e] at h
  exact h
theorem Kl.pRd3 {G : Gx} {X : Nat → Prop} {w0 w : Wd} {S : KS} (hK : Kl G X w0 S w) {i : Nat} (hi : i < S.nn 9) (v : Int32) : Kl G X w0 (S.srd (upd2 S.rd i 3 v)) (up w (S.ad 9 i) (eRd (S.rd i 0) (S.rd i 1) (S.rd i 2) v)) := by
  have h := hK.put (S.srd (upd2 S.rd i 3 v)) 9 i (lvK (by decide) (by decide) hi) rfl rfl rfl hK.cl (fun k1 i1 hl1 hn1 => match k1, hl1, hn1 with
    | 0, hl1, hn1 => ⟨rfl, rfl, rfl, rfl⟩
    | 1, hl1, hn1 => trivial
    | 2, hl1, hn1 => rfl
    | 3, hl1, hn1 => ⟨rfl, rfl, rfl⟩
    | 4, hl1, hn1 => ⟨rfl, rfl, fun _ _ => rfl⟩
    | 5, hl1, hn1 => rfl
    | 6, hl1, hn1 => ⟨rfl, rfl⟩
    | 7, hl1, hn1 => rfl
    | 8, hl1, hn1 => ⟨rfl, rfl⟩
    | 9, hl1, hn1 => upd2_n (hn1 rfl)
    | 10, hl1, hn1 => rfl
    | n + 11, hl1, hn1 => rfl)
  have e : kc G (S.srd (upd2 S.rd i 3 v)) 9 i = eRd (S.rd i 0) (S.rd i 1) (S.rd i 2) v := by
    show eRd (upd2 S.rd i 3 v i 0) (upd2 S.rd i 3 v i 1) (upd2 S.rd i 3 v i 2) (upd2 S.rd i 3 v i 3) = eRd (S.rd i 0) (S.rd i 1) (S.rd i 2) v
    rw [upd2_s, upd_s, upd_n (show 0 ≠ 3 by decide), upd_n (show 1 ≠ 3 by decide), upd_n (show 2 ≠ 3 by decide)]
  rw [e] at h
  exact h
theorem Kl.pSp {G : Gx} {X : Nat → Prop} {w0 w : Wd} {S : KS} (hK : Kl G X w0 S w) (k : Nat) (v : Int32) : Kl G X w0 (S.ssp (upd S.sp k v)) (up w (S.ad 10 0) (eI G 4 (upd S.sp k v))) :=
  hK.put (S.ssp (upd S.sp k v)) 10 0 hK.l10 rfl rfl rfl (hK.cl) (fun k1 i1 hl1 hn1 => match k1, hl1, hn1 with
    | 0, hl1, hn1 => ⟨rfl, rfl, rfl, rfl⟩
    | 1, hl1, hn1 => trivial
    | 2, hl1, hn1 => rfl
    | 3, hl1, hn1 => ⟨rfl, rfl, rfl⟩
    | 4, hl1, hn1 => ⟨rfl, rfl, fun _ _ => rfl⟩
    | 5, hl1, hn1 => rfl
    | 6, hl1, hn1 => ⟨rfl, rfl⟩
    | 7, hl1, hn1 => rfl
    | 8, hl1, hn1 => ⟨rfl, rfl⟩
    | 9, hl1, hn1 => rfl
    | 10, hl1, hn1 => absurd (by have h9 : i1 < S.nn 10 := hl1.2.1; rw [hK.cl.c0.2.2.1] at h9; omega) (hn1 rfl)
    | n + 11, hl1, hn1 => rfl)
theorem Kl.pHe {G : Gx} {X : Nat → Prop} {w0 w : Wd} {S : KS} (hK : Kl G X w0 S w) (k : Nat) (v : Int32) : Kl G X w0 (S.she (upd S.he k v)) (up w (S.ad 11 0) (eZ G 100 (upd S.he k v))) :=
  hK.put (S.she (upd S.he k v)) 11 0 hK.l11 rfl rfl rfl hK.cl (fun k1 i1 hl1 hn1 => match k1, hl1, hn1 with
    | 0, hl1, hn1 => ⟨rfl, rfl, rfl, rfl⟩
    | 1, hl1, hn1 => trivial
    | 2, hl1, hn1 => rfl
    | 3, hl1, hn1 => ⟨rfl, rfl, rfl⟩
    | 4, hl1, hn1 => ⟨rfl, rfl, fun _ _ => rfl⟩
    | 5, hl1, hn1 => rfl
    | 6, hl1, hn1 => ⟨rfl, rfl⟩
    | 7, hl1, hn1 => rfl
    | 8, hl1, hn1 => ⟨rfl, rfl⟩
    | 9, hl1, hn1 => rfl
    | 10, hl1, hn1 => rfl
    | n + 11, hl1, hn1 => by rcases n with _ | n; exact absurd (by have h9 : i1 < S.nn 11 := hl1.2.1; rw [hK.cl.c0.2.2.2] at h9; omega) (hn1 rfl); exact absurd hl1.1 (by omega))
def f3 (a b c : Int32) : Nat → Int32 := fun k => if k = 0 then a else if k = 1 then b else c
def f5 (a b c d e : Int32) : Nat → Int32 := fun k => if k = 0 then a else if k = 1 then b else if k = 2 then c else if k = 3 then d else e
def updF (f : Nat → Nat → Int32) (i : Nat) (g : Nat → Int32) : Nat → Nat → Int32 := fun q => if q = i then g else f q
theorem updF_s (f : Nat → Nat → Int32) (i : Nat) (g : Nat → Int32) : updF f i g i = g := if_pos rfl
theorem updF_n {f : Nat → Nat → Int32} {i : Nat} {g : Nat → Int32} {q : Nat} (h : q ≠ i) : updF f i g q = f q := if_neg h
theorem updN_le {f : Nat → Nat} {i k : Nat} : f k ≤ updN f i (f i + 1) k := by
  unfold updN
  by_cases h : k = i
  · rw [if_pos h, h]; omega
  · rw [if_neg h]; exact Nat.le_refl _
/-- one object more of a kind -/
def KS.one (S : KS) (k q : Nat) : KS := (S.sad (ad2 S.ad k (S.nn k) q)).snn (updN S.nn k (S.nn k + 1))
theorem lv_one {S : KS} {k q k' i' : Nat} (h : Lv (S.one k q) k' i') : Lv S k' i' ∨ (k' = k ∧ i' = S.nn k) := by
  obtain ⟨a, b, c⟩ := h
  have b : i' < updN S.nn k (S.nn k + 1) k' := b
  unfold updN at b
  by_cases e : k' = k
  · rw [if_pos e] at b
    subst e
    rcases Nat.lt_succ_iff_lt_or_eq.mp b with z | z
    · exact Or.inl ⟨a, z, c⟩
    · exact Or.inr ⟨rfl, z⟩
  · rw [if_neg e] at b
    exact Or.inl ⟨a, b, c⟩
theorem cl_one {S : KS} (h : Cl S) {k q : Nat} (hk : k = 2 ∨ k = 5 ∧ S.nn 5 + 4 < S.nn 3 ∨ k = 6 ∧ S.nn 6 < S.nn 7 ∨ k = 7 ∨ k = 9) : Cl (S.one k q) := by
  have hle : ∀ j, S.nn j ≤ updN S.nn k (S.nn k + 1) j := fun j => updN_le
  have hs : ∀ j, j ≠ k → updN S.nn k (S.nn k + 1) j = S.nn j := fun j hj => updN_n hj
  refine ⟨?_, ?_, ?_, ?_, ?_, ?_, ?_, ?_, ?_⟩
  · show updN S.nn k (S.nn k + 1) 0 = 1 ∧ updN S.nn k (S.nn k + 1) 1 = 1 ∧ updN S.nn k (S.nn k + 1) 10 = 1 ∧ updN S.nn k (S.nn k + 1) 11 = 1
    rw [hs 0 (by omega), hs 1 (by omega), hs 10 (by omega), hs 11 (by omega)]
    exact h.c0
  · show updN S.nn k (S.nn k + 1) 4 = updN S.nn k (S.nn k + 1) 3
    rw [hs 4 (by omega), hs 3 (by omega)]
    exact h.c4
  · show updN S.nn k (S.nn k + 1) 5 + 4 ≤ updN S.nn k (S.nn k + 1) 3
    rw [hs 3 (by omega)]
    by_cases e : k = 5
    · subst e; rw [updN_s]; omega
    · rw [hs 5 (fun z => e z.symm)]; exact h.c5
  · show updN S.nn k (S.nn k + 1) 6 ≤ updN S.nn k (S.nn k + 1) 7
    by_cases e : k = 6
    · subst e; rw [updN_s, updN_n (by decide)]; omega
    · rw [hs 6 (fun z => e z.symm)]; exact Nat.le_trans h.c7 (hle 7)
  · exact Nat.lt_of_lt_of_le h.oR (hle 5)
  · exact Nat.lt_of_lt_of_le h.oP (hle 6)
  · intro l i hl hi
    have hl : l < updN S.nn k (S.nn k + 1) 3 := hl
    rw [hs 3 (by omega)] at hl
    have e9 : ekI (S.one k q) l i = ekI S l i := by rcases l with _ | _ | _ | _ | l <;> rfl
    rw [e9]
    exact Nat.lt_of_lt_of_le (h.el l i hl hi) (hle _)
  · intro d hd
    have hd : d < updN S.nn k (S.nn k + 1) 8 := hd
    rw [hs 8 (by omega)] at hd
    exact Nat.lt_of_lt_of_le (h.dR d hd) (hle 5)
  · intro l hl
    have hl : l < updN S.nn k (S.nn k + 1) 3 := hl
    rw [hs 3 (by omega)] at hl
    exact h.cp l hl

theorem Kl.newF {G : Gx} {X : Nat → Prop} {w0 w : Wd} {S : KS} (hK : Kl G X w0 S w) {q : Nat} (hq : w q = none) (hb : (gH G).size ≤ q) (a b c : Int32) : Kl G X w0 ((S.one 2 q).sfm (updF S.fm (S.nn 2) (f3 a b c))) (up w q (eFm a b c)) := by
  have h := hK.new1 ((S.one 2 q).sfm (updF S.fm (S.nn 2) (f3 a b c))) 2 q rfl (fun k1 i1 hl1 => lv_one hl1) (cl_one hK.cl (Or.inl rfl)) (fun k1 i1 hl1 => match k1, hl1 with
    | 0, hl1 => ⟨rfl, rfl, rfl, rfl⟩
    | 1, hl1 => trivial
    | 2, hl1 => updF_n (Nat.ne_of_lt hl1.2.1)
    | 3, hl1 => ⟨rfl, rfl, rfl⟩
    | 4, hl1 => ⟨rfl, rfl, fun _ _ => rfl⟩
    | 5, hl1 => rfl
    | 6, hl1 => ⟨rfl, rfl⟩
    | 7, hl1 => rfl
    | 8, hl1 => ⟨rfl, rfl⟩
    | 9, hl1 => rfl
    | 10, hl1 => rfl
    | n + 11, hl1 => rfl) hq hb
  have e : kc G ((S.one 2 q).sfm (updF S.fm (S.nn 2) (f3 a b c))) 2 (S.nn 2) = eFm a b c := by
    show eFm (updF S.fm (S.nn 2) (f3 a b c) (S.nn 2) 0) (updF S.fm (S.nn 2) (f3 a b c) (S.nn 2) 1) (updF S.fm (S.nn 2) (f3 a b c) (S.nn 2) 2) = _
    rw [updF_s]; rfl
  rw [e] at h
  exact h
theorem Kl.newV {G : Gx} {X : Nat → Prop} {w0 w : Wd} {S : KS} (hK : Kl G X w0 S w) {q : Nat} (hq : w q = none) (hb : (gH G).size ≤ q)  : Kl G X w0 ((S.one 7 q).spV (updF S.pV (S.nn 7) (fun _ => 0))) (up w q (eI G 8 (fun _ => 0))) := by
  have h := hK.new1 ((S.one 7 q).spV (updF S.pV (S.nn 7) (fun _ => 0))) 7 q rfl (fun k1 i1 hl1 => lv_one hl1) (cl_one hK.cl (Or.inr (Or.inr (Or.inr (Or.inl rfl))))) (fun k1 i1 hl1 => match k1, hl1 with
    | 0, hl1 => ⟨rfl, rfl, rfl, rfl⟩
    | 1, hl1 => trivial
    | 2, hl1 => rfl
    | 3, hl1 => ⟨rfl, rfl, rfl⟩
    | 4, hl1 => ⟨rfl, rfl, fun _ _ => rfl⟩
    | 5, hl1 => rfl
    | 6, hl1 => ⟨rfl, rfl⟩
    | 7, hl1 => updF_n (Nat.ne_of_lt hl1.2.1)
    | 8, hl1 => ⟨rfl, rfl⟩
    | 9, hl1 => rfl
    | 10, hl1 => rfl
    | n + 11, hl1 => rfl) hq hb
  have e : kc G ((S.one 7 q).spV (updF S.pV (S.nn 7) (fun _ => 0))) 7 (S.nn 7) = eI G 8 (fun _ => 0) := by
    show eI G 8 (updF S.pV (S.nn 7) (fun _ => 0) (S.nn 7)) = _
    rw [updF_s]
  rw [e] at h
  exact h
theorem Kl.newP {G : Gx} {X : Nat → Prop} {w0 w : Wd} {S : KS} (hK : Kl G X w0 S w) {q : Nat} (hq : w q = none) (hb : (gH G).size ≤ q) (h67 : S.nn 6 < S.nn 7) (n : Nat) (c : Int32) : Kl G X w0 (((S.one 6 q).spS (updN S.pS (S.nn 6) n)).spC (upd S.pC (S.nn 6) c)) (up w q (ePg (S.ad 7 (S.nn 6)) (nI n) c)) := by
  have h := hK.new1 (((S.one 6 q).spS (updN S.pS (S.nn 6) n)).spC (upd S.pC (S.nn 6) c)) 6 q rfl (fun k1 i1 hl1 => lv_one hl1) (cl_one hK.cl (Or.inr (Or.inr (Or.inl ⟨rfl, h67⟩)))) (fun k1 i1 hl1 => match k1, hl1 with
    | 0, hl1 => ⟨rfl, rfl, rfl, rfl⟩
    | 1, hl1 => trivial
    | 2, hl1 => rfl
    | 3, hl1 => ⟨rfl, rfl, rfl⟩
    | 4, hl1 => ⟨rfl, rfl, fun _ _ => rfl⟩
    | 5, hl1 => rfl
    | 6, hl1 => ⟨updN_n (Nat.ne_of_lt hl1.2.1), upd_n (Nat.ne_of_lt hl1.2.1)⟩
    | 7, hl1 => rfl
    | 8, hl1 => ⟨rfl, rfl⟩
    | 9, hl1 => rfl
    | 10, hl1 => rfl
    | n + 11, hl1 => rfl) hq hb
  have e : kc G (((S.one 6 q).spS (updN S.pS (S.nn 6) n)).spC (upd S.pC (S.nn 6) c)) 6 (S.nn 6) = ePg (S.ad 7 (S.nn 6)) (nI n) c := by
    show ePg (ad2 S.ad 6 (S.nn 6) q 7 (S.nn 6)) (nI (updN S.pS (S.nn 6) n (S.nn 6))) (upd S.pC (S.nn 6) c (S.nn 6)) = _
    rw [updN_s, upd_s]; rfl
  rw [e] at h
  exact h
theorem Kl.newQ {G : Gx} {X : Nat → Prop} {w0 w : Wd} {S : KS} (hK : Kl G X w0 S w) {q : Nat} (hq : w q = none) (hb : (gH G).size ≤ q) (h53 : S.nn 5 + 4 < S.nn 3) (dy : Int32) : Kl G X w0 ((S.one 5 q).srD (upd S.rD (S.nn 5) dy)) (up w q (eRn (S.ad 3 (S.nn 5 + 4)) dy)) := by
  have h := hK.new1 ((S.one 5 q).srD (upd S.rD (S.nn 5) dy)) 5 q rfl (fun k1 i1 hl1 => lv_one hl1) (cl_one hK.cl (Or.inr (Or.inl ⟨rfl, h53⟩))) (fun k1 i1 hl1 => match k1, hl1 with
    | 0, hl1 => ⟨rfl, rfl, rfl, rfl⟩
    | 1, hl1 => trivial
    | 2, hl1 => rfl
    | 3, hl1 => ⟨rfl, rfl, rfl⟩
    | 4, hl1 => ⟨rfl, rfl, fun _ _ => rfl⟩
    | 5, hl1 => upd_n (Nat.ne_of_lt hl1.2.1)
    | 6, hl1 => ⟨rfl, rfl⟩
    | 7, hl1 => rfl
    | 8, hl1 => ⟨rfl, rfl⟩
    | 9, hl1 => rfl
    | 10, hl1 => rfl
    | n + 11, hl1 => rfl) hq hb
  have e : kc G ((S.one 5 q).srD (upd S.rD (S.nn 5) dy)) 5 (S.nn 5) = eRn (S.ad 3 (S.nn 5 + 4)) dy := by
    show eRn (ad2 S.ad 5 (S.nn 5) q 3 (S.nn 5 + 4)) (upd S.rD (S.nn 5) dy (S.nn 5)) = _
    rw [upd_s]; rfl
  rw [e] at h
  exact h
