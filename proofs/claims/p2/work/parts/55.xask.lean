/-- what holds of the object between calls: n lists, m numbers in the row, pu steps -/
def XI (sh : Sh) (rk : Nat → Nat) (q : Nat) (ci ai : Nat → Nat → Int32) (n m : Nat) (pu : Int32) : Prop := (Wf sh rk) ∧ (CI sh ci ai) ∧ (q ∈ sL sh ∧ sK sh q = 10) ∧ (∃ t, sR sh q 0 = some t ∧ t ∈ sL sh ∧ sK sh t = 5) ∧ (∃ p, sR sh q 1 = some p ∧ p ∈ sL sh ∧ sK sh p = 23 ∧ sN sh p = 24 ∧ ∀ i, i < n → ∃ z, sQ sh p i = some z ∧ LZ sh z) ∧ (∃ b, sR sh q 2 = some b ∧ b ∈ sL sh ∧ sK sh b = 22 ∧ sN sh b = 100) ∧ (∃ b, sR sh q 3 = some b ∧ b ∈ sL sh ∧ sK sh b = 21 ∧ sN sh b = 100 ∧ ∀ j, j < m → ¬ ai b j = 0) ∧ (∀ z, LZ sh z → rk z < n) ∧ (n ≤ 24) ∧ (m ≤ 100) ∧ (ci q 4 = nI n) ∧ (ci q 5 = nI m) ∧ (ci q 6 = pu)
theorem XI.wf {sh : Sh} {rk : Nat → Nat} {q : Nat} {ci ai : Nat → Nat → Int32} {n m : Nat} {pu : Int32} (h : XI sh rk q ci ai n m pu) : Wf sh rk := h.1
theorem XI.num {sh : Sh} {rk : Nat → Nat} {q : Nat} {ci ai : Nat → Nat → Int32} {n m : Nat} {pu : Int32} (h : XI sh rk q ci ai n m pu) : CI sh ci ai := h.2.1
theorem XI.own {sh : Sh} {rk : Nat → Nat} {q : Nat} {ci ai : Nat → Nat → Int32} {n m : Nat} {pu : Int32} (h : XI sh rk q ci ai n m pu) : q ∈ sL sh ∧ sK sh q = 10 := h.2.2.1
theorem XI.met {sh : Sh} {rk : Nat → Nat} {q : Nat} {ci ai : Nat → Nat → Int32} {n m : Nat} {pu : Int32} (h : XI sh rk q ci ai n m pu) : ∃ t, sR sh q 0 = some t ∧ t ∈ sL sh ∧ sK sh t = 5 := h.2.2.2.1
theorem XI.pile {sh : Sh} {rk : Nat → Nat} {q : Nat} {ci ai : Nat → Nat → Int32} {n m : Nat} {pu : Int32} (h : XI sh rk q ci ai n m pu) : ∃ p, sR sh q 1 = some p ∧ p ∈ sL sh ∧ sK sh p = 23 ∧ sN sh p = 24 ∧ ∀ i, i < n → ∃ z, sQ sh p i = some z ∧ LZ sh z := h.2.2.2.2.1
theorem XI.row {sh : Sh} {rk : Nat → Nat} {q : Nat} {ci ai : Nat → Nat → Int32} {n m : Nat} {pu : Int32} (h : XI sh rk q ci ai n m pu) : ∃ b, sR sh q 2 = some b ∧ b ∈ sL sh ∧ sK sh b = 22 ∧ sN sh b = 100 := h.2.2.2.2.2.1
theorem XI.fate {sh : Sh} {rk : Nat → Nat} {q : Nat} {ci ai : Nat → Nat → Int32} {n m : Nat} {pu : Int32} (h : XI sh rk q ci ai n m pu) : ∃ b, sR sh q 3 = some b ∧ b ∈ sL sh ∧ sK sh b = 21 ∧ sN sh b = 100 ∧ ∀ j, j < m → ¬ ai b j = 0 := h.2.2.2.2.2.2.1
theorem XI.rank {sh : Sh} {rk : Nat → Nat} {q : Nat} {ci ai : Nat → Nat → Int32} {n m : Nat} {pu : Int32} (h : XI sh rk q ci ai n m pu) : ∀ z, LZ sh z → rk z < n := h.2.2.2.2.2.2.2.1
theorem XI.n24 {sh : Sh} {rk : Nat → Nat} {q : Nat} {ci ai : Nat → Nat → Int32} {n m : Nat} {pu : Int32} (h : XI sh rk q ci ai n m pu) : n ≤ 24 := h.2.2.2.2.2.2.2.2.1
theorem XI.m100 {sh : Sh} {rk : Nat → Nat} {q : Nat} {ci ai : Nat → Nat → Int32} {n m : Nat} {pu : Int32} (h : XI sh rk q ci ai n m pu) : m ≤ 100 := h.2.2.2.2.2.2.2.2.2.1
theorem XI.made {sh : Sh} {rk : Nat → Nat} {q : Nat} {ci ai : Nat → Nat → Int32} {n m : Nat} {pu : Int32} (h : XI sh rk q ci ai n m pu) : ci q 4 = nI n := h.2.2.2.2.2.2.2.2.2.2.1
theorem XI.long {sh : Sh} {rk : Nat → Nat} {q : Nat} {ci ai : Nat → Nat → Int32} {n m : Nat} {pu : Int32} (h : XI sh rk q ci ai n m pu) : ci q 5 = nI m := h.2.2.2.2.2.2.2.2.2.2.2.1
theorem XI.purse {sh : Sh} {rk : Nat → Nat} {q : Nat} {ci ai : Nat → Nat → Int32} {n m : Nat} {pu : Int32} (h : XI sh rk q ci ai n m pu) : ci q 6 = pu := h.2.2.2.2.2.2.2.2.2.2.2.2
def inL (p : Int32) (n : Nat) : Prop := ¬ p < 0 ∧ ¬ nI n ≤ p
def inO (p hi : Int32) : Prop := ¬ p < 0 ∧ p ≤ hi
section XA
variable {sh : Sh} {rk : Nat → Nat} {ci ai ci1 ai1 : Nat → Nat → Int32} {al : Nat → Nat → Int64} {q n m : Nat} {pu p0 p1 x : Int32} {X : String → Prop}
theorem CI.obj {f : Nat → Int32} (h : CI sh ci ai) (h10 : sK sh q = 10) : CI sh (va_up ci q f) ai := by
  refine ⟨h.1, h.2.1, fun z hz hk => ?_, fun z hz => ?_⟩
  · rw [va_up_ne _ _ (fun e => by rw [e, h10] at hk; cases hk)]; exact h.2.2.1 z hz hk
  · rw [va_up_ne _ _ (fun e => by have := hz.2; rw [e, h10] at this; exact absurd this (by decide))]; exact h.2.2.2 z hz
theorem XI.ask (H : XI sh rk q ci ai n m pu) (h : CI sh ci1 ai1) (hR : Rel sh rk 24 ci ai ci1 ai1) : XI sh rk q ci1 ai1 n m pu := by
  obtain ⟨b, b1, b2, b3, b4, b5⟩ := H.fate
  have e := hR.2.2 q H.own.2
  exact ⟨H.wf, (h), H.own, H.met, H.pile, H.row, (⟨b, b1, b2, b3, b4, fun j hj => hR.1 b b2 b3 j (b5 j hj)⟩), H.rank, H.n24, H.m100, (by rw [e]; exact H.made), (by rw [e]; exact H.long), (by rw [e]; exact H.purse)⟩
theorem XI.fld {j : Nat} (H : XI sh rk q ci ai n m pu) (hj : 6 < j) : XI sh rk q (va_up ci q (va_up (ci q) j x)) ai n m pu := by
  have e : ∀ i, i ≤ 6 → va_up ci q (va_up (ci q) j x) q i = ci q i := fun i hi => up2 (fun e => by omega)
  exact ⟨H.wf, (H.num.obj H.own.2), H.own, H.met, H.pile, H.row, H.fate, H.rank, H.n24, H.m100, (by rw [e 4 (by decide)]; exact H.made), (by rw [e 5 (by decide)]; exact H.long), (by rw [e 6 (by decide)]; exact H.purse)⟩
theorem ok_finish {z : Int64} {Q : Int64 → Sh → SCTy} (H : XI sh rk q ci ai n m pu) (hQ : ∀ r ci', XI sh rk q ci' ai n m pu → Q r sh ci' ai al) : P_X11_finish sh ci ai al q p0 z Q := by
  have st : ∀ {r : Int64} {x y : Int32}, Q r sh (va_up (va_up ci q (va_up (ci q) 8 x)) q (va_up ((va_up ci q (va_up (ci q) 8 x)) q) 7 y)) ai al := fun {r x y} => hQ _ _ ((H.fld (j := 8) (by decide)).fld (j := 7) (by decide))
  refine ⟨H.own, fun _ => ⟨fun _ => st, fun _ => ⟨fun _ => st, fun _ => ⟨fun _ => st, fun _ => ⟨fun _ => st, fun _ => st⟩⟩⟩⟩, fun _ => ⟨fun _ => st, fun _ => ⟨fun _ => st, fun _ => ⟨fun _ => st, fun _ => ⟨fun _ => st, fun _ => st⟩⟩⟩⟩⟩
theorem ok_begin {t : Nat} {Q : SCTy} (H : XI sh rk q ci ai n m pu) (ht : t ∈ sL sh ∧ sK sh t = 5) (hQ : ∀ ci', XI sh rk q ci' ai n m pu → Q ci' ai al) : P_X6_begin sh ci ai al t p0 Q := by
  have h5 : ¬ sK sh t = 10 := fun e => absurd (ht.2.symm.trans e) (by decide)
  have h3 : ∀ {j : Nat}, sK sh t = 3 → j ≠ 6 := fun e => absurd (ht.2.symm.trans e) (by decide)
  exact ⟨ht, hQ _ (H.ask ((H.num.fld (by decide) h3).fld (by decide) h3) ((Rel.fld (by decide) h5).tr (Rel.fld (by decide) h5)))⟩
theorem ok_listOf {Q : Nat → Prop} (H : XI sh rk q ci ai n m pu) (hQ : inL p0 n → ∀ z, LZ sh z → Q z) (hI : ¬ inL p0 n → X "java/lang/IndexOutOfBoundsException") : P_X11_listOf sh ci ai al q p0 Q X := by
  obtain ⟨p, hp, p1, p2, p3, p4⟩ := H.pile
  have h24 := H.n24
  refine ⟨H.own, fun h => hI (fun c => c.1 h), fun h0 => ⟨fun h => hI (fun c => c.2 (by rw [← H.made]; exact h)), fun h => ?_⟩⟩
  rw [H.made] at h
  obtain ⟨j, hj, ej, -⟩ := pk_mu h0 h (show n < 2 ^ 31 by omega)
  obtain ⟨z, hz, hzl⟩ := p4 j hj
  refine ⟨p, hp, ⟨p1, p2⟩, fun hle => ?_, fun _ => ⟨?_, fun hn => ?_, fun z' hz' => ?_⟩⟩
  · rw [p3, ej] at hle; exact absurd hle (nI_ge (by omega) (by omega))
  · rw [p3, ej]; exact vp_in_nI (by omega) (by omega)
  · rw [ej, nI_clamp (by omega), hz] at hn; cases hn
  · rw [ej, nI_clamp (by omega), hz] at hz'; cases hz'; exact hQ ⟨h0, h⟩ z hzl
abbrev KA (sh : Sh) (rk : Nat → Nat) (q n m : Nat) (pu : Int32) (Q : Int64 → Sh → SCTy) : Prop := ∀ r ci' ai' al', XI sh rk q ci' ai' n m pu → Q r sh ci' ai' al'
theorem ok_at {Q : Int64 → Sh → SCTy} (H : XI sh rk q ci ai n m pu) (hQ : KA sh rk q n m pu Q) (hI : ¬ inL p0 n → X "java/lang/IndexOutOfBoundsException") (hA : inL p0 n → ¬ 0 ≤ p1 → X "java/lang/IllegalArgumentException") : P_X11_at sh ci ai al q p0 p1 Q X := by
  obtain ⟨t, ht, t1⟩ := H.met
  refine ⟨H.own, ok_listOf H (fun iL z hz => ⟨fun _ => ⟨t, ht, t1, ok_begin H t1 (fun c1 H1 => ⟨hz, ok_R H1.wf hz H1.num (fun y c a l e1 e2 e3 => ?_)⟩)⟩, fun h => hA iL h⟩) hI⟩
  have H2 := H1.ask e2 e3
  refine ⟨fun _ => ok_W H2.wf hz H2.num (fun y c a l e1 e2 e3 => ok_number30 H2.wf hz (fun r => ok_finish (H2.ask e2 e3) (fun r c h => hQ _ _ _ _ h))), fun _ => ⟨fun _ => ok_finish H2 (fun r c h => hQ _ _ _ _ h), fun _ => ok_finish H2 (fun r c h => hQ _ _ _ _ h)⟩⟩
theorem ok_size {Q : Int64 → Sh → SCTy} (H : XI sh rk q ci ai n m pu) (hQ : KA sh rk q n m pu Q) (hI : ¬ inL p0 n → X "java/lang/IndexOutOfBoundsException") : P_X11_size sh ci ai al q p0 Q X := by
  obtain ⟨t, ht, t1⟩ := H.met
  refine ⟨H.own, ok_listOf H (fun _ z hz => ⟨t, ht, t1, ok_begin H t1 (fun c1 H1 => ⟨hz, hz, ok_R H1.wf hz H1.num (fun y c a l e1 e2 e3 => ?_)⟩)⟩) hI⟩
  have H2 := H1.ask e2 e3
  exact ⟨fun _ => ok_there hz (fun r => ok_finish H2 (fun r c h => hQ _ _ _ _ h)), fun _ => ok_there hz (fun r => ok_finish H2 (fun r c h => hQ _ _ _ _ h))⟩
theorem ok_last {Q : Int64 → Sh → SCTy} (H : XI sh rk q ci ai n m pu) (hQ : KA sh rk q n m pu Q) (hI : ¬ inL p0 n → X "java/lang/IndexOutOfBoundsException") : P_X11_last sh ci ai al q p0 Q X := by
  obtain ⟨t, ht, t1⟩ := H.met
  refine ⟨H.own, ok_listOf H (fun _ z hz => ⟨t, ht, t1, ok_begin H t1 (fun c1 H1 => ⟨hz, hz, ok_R H1.wf hz H1.num (fun y c a l e1 e2 e3 => ?_)⟩)⟩) hI⟩
  have H2 := H1.ask e2 e3
  refine ⟨fun _ => ok_there hz (fun r => ⟨fun _ => ok_W H2.wf hz H2.num (fun y c a l e1 e2 e3 => ok_number30 H2.wf hz (fun r => ok_finish (H2.ask e2 e3) (fun r c h => hQ _ _ _ _ h))), fun _ => ok_finish H2 (fun r c h => hQ _ _ _ _ h)⟩), fun _ => ok_finish H2 (fun r c h => hQ _ _ _ _ h)⟩
theorem ok_find {z : Int64} {Q : Int64 → Sh → SCTy} (H : XI sh rk q ci ai n m pu) (hQ : KA sh rk q n m pu Q) (hI : ¬ inL p0 n → X "java/lang/IndexOutOfBoundsException") (hA : inL p0 n → ¬ inO p1 3 → X "java/lang/IllegalArgumentException") : P_X11_find sh ci ai al q p0 p1 z Q X := by
  obtain ⟨t, ht, t1⟩ := H.met
  have fin : ∀ {ci ai : Nat → Nat → Int32} {al : Nat → Nat → Int64} {p : Int32} {y : Int64}, XI sh rk q ci ai n m pu → P_X11_finish sh ci ai al q p y Q := fun h => ok_finish h (fun r c h => hQ _ _ _ _ h)
  have key : ∀ (f : Nat) (x6 : Int32) (w : Nat) (ci ai : Nat → Nat → Int32) (al : Nat → Nat → Int64), (401 - x6.toInt).toNat < f → LZ sh w → XI sh rk q ci ai n m pu → P_X11_find_25 Q q f sh ci ai al p1 z w x6 := by
    intro f
    induction f with
    | zero => intro x6 w ci ai al hn; exact absurd hn (Nat.not_lt_zero _)
    | succ f ih =>
      intro x6 w ci ai al hn hw H
      refine ⟨fun _ => ⟨H.own, fin H⟩, fun hx => ⟨hw, ok_R H.wf hw H.num (fun y c a l e1 e2 e3 => ?_)⟩⟩
      have H2 := H.ask e2 e3
      refine ⟨fun _ => ok_W H2.wf hw H2.num (fun y c a l e1 e2 e3 => ⟨fun _ => ⟨H.own, fin (H2.ask e2 e3)⟩, fun _ => ok_number30 H2.wf hw (fun r => ok_meets ⟨fun _ => ih _ _ _ _ _ ?_ hw (H2.ask e2 e3), fun h => absurd rfl h⟩ ⟨fun h => absurd h (by decide), fun _ => ⟨H.own, fin (H2.ask e2 e3)⟩⟩)⟩), fun _ => ⟨fun _ => ⟨H.own, fin H2⟩, fun _ => ⟨H.own, fin H2⟩⟩⟩
      have := inc400 hx
      omega
  exact ⟨H.own, ok_listOf H (fun iL w hw => ⟨fun h => hA iL (fun c => c.1 h), fun _ => ⟨fun _ => ⟨t, ht, t1, ok_begin H t1 (fun c1 H1 => ⟨_, key _ _ _ _ _ _ (Nat.lt_succ_self _) hw H1⟩)⟩, fun h => hA iL (fun c => h c.2)⟩⟩) hI⟩
theorem ok_fold {z : Int64} {Q : Int64 → Sh → SCTy} (H : XI sh rk q ci ai n m pu) (hQ : KA sh rk q n m pu Q) (hI : ¬ inL p0 n → X "java/lang/IndexOutOfBoundsException") (hA : inL p0 n → ¬ inO p1 8 → X "java/lang/IllegalArgumentException") : P_X11_fold sh ci ai al q p0 p1 z Q X := by
  obtain ⟨t, ht, t1⟩ := H.met
  have fin : ∀ {ci ai : Nat → Nat → Int32} {al : Nat → Nat → Int64} {p : Int32} {y : Int64}, XI sh rk q ci ai n m pu → P_X11_finish sh ci ai al q p y Q := fun h => ok_finish h (fun r c h => hQ _ _ _ _ h)
  have key : ∀ (f : Nat) (x9 x8 : Int32) (x6 : Int64) (w : Nat) (ci ai : Nat → Nat → Int32) (al : Nat → Nat → Int64), (401 - x9.toInt).toNat < f → LZ sh w → XI sh rk q ci ai n m pu → P_X11_fold_31 Q q f sh ci ai al p1 w x6 x8 x9 := by
    intro f
    induction f with
    | zero => intro x9 x8 x6 w ci ai al hn; exact absurd hn (Nat.not_lt_zero _)
    | succ f ih =>
      intro x9 x8 x6 w ci ai al hn hw H
      refine ⟨fun _ => ⟨H.own, fin H⟩, fun hx => ⟨hw, ok_R H.wf hw H.num (fun y c a l e1 e2 e3 => ?_)⟩⟩
      have hi := inc400 hx
      have go : ∀ {x8 : Int32} {x6 : Int64} {ci ai : Nat → Nat → Int32} {al : Nat → Nat → Int64}, XI sh rk q ci ai n m pu → P_X11_fold_31 Q q f sh ci ai al p1 w x6 x8 (x9 + 1) := fun h => ih _ _ _ _ _ _ _ (by omega) hw h
      have H2 := H.ask e2 e3
      refine ⟨fun _ => ⟨fun _ => ok_W H2.wf hw H2.num (fun y c a l e1 e2 e3 => ok_number30 H2.wf hw (fun r => ?_)), fun _ => go H2⟩, fun _ => ⟨fun _ => ⟨H.own, fin H2⟩, fun _ => ⟨H.own, fin H2⟩⟩⟩
      have H3 := H2.ask e2 e3
      exact ⟨fun _ => ⟨fun _ => ⟨H.own, fin H3⟩, fun _ => ⟨fun _ => ok_reckon (fun _ => go H3), fun _ => ⟨H.own, fin H3⟩⟩⟩, fun _ => ok_dbn ⟨fun _ => ok_reckon (fun _ => go H3), fun h => absurd rfl h⟩ ⟨fun h => absurd h (by decide), fun _ => ⟨fun _ => ok_reckon (fun _ => go H3), fun _ => ⟨H.own, fin H3⟩⟩⟩⟩
  exact ⟨H.own, ok_listOf H (fun iL w hw => ⟨fun h => hA iL (fun c => c.1 h), fun _ => ⟨fun _ => ⟨t, ht, t1, ok_begin H t1 (fun c1 H1 => ⟨_, key _ _ _ _ _ _ _ _ (Nat.lt_succ_self _) hw H1⟩)⟩, fun h => hA iL (fun c => h c.2)⟩⟩) hI⟩
theorem ok_reached {Q : Int32 → Sh → SCTy} (H : XI sh rk q ci ai n m pu) (hQ : ∀ r, Q r sh ci ai al) (hI : ¬ inL p0 n → X "java/lang/IndexOutOfBoundsException") : P_X11_reached sh ci ai al q p0 Q X :=
  ⟨H.own, ok_listOf H (fun _ z hz => ⟨hz, hQ _⟩) hI⟩
theorem ok_worked {Q : Int32 → Sh → SCTy} (H : XI sh rk q ci ai n m pu) (hQ : ∀ r, Q r sh ci ai al) (hI : ¬ inL p0 n → X "java/lang/IndexOutOfBoundsException") : P_X11_worked sh ci ai al q p0 p1 Q X :=
  ⟨H.own, ok_listOf H (fun _ z hz => ⟨fun _ => hQ _, fun _ => ⟨hz, ok_there hz (fun r => ⟨fun _ => hQ _, fun _ => ok_isWorked H.wf hz (by have := (H.wf z hz).2.2.2.2.2.2.2.2.2; omega) (fun r hr => ⟨fun _ => hQ _, fun _ => hQ _⟩)⟩)⟩⟩) hI⟩
theorem ok_outcome {Q : Int32 → Sh → SCTy} (H : XI sh rk q ci ai n m pu) (hQ : ∀ r, Q r sh ci ai al) : P_X11_outcome sh ci ai al q Q := ⟨H.own, hQ _⟩
theorem ok_error {Q : Int32 → Sh → SCTy} (H : XI sh rk q ci ai n m pu) (hQ : ∀ r, Q r sh ci ai al) : P_X11_error sh ci ai al q Q := ⟨H.own, hQ _⟩
theorem ok_spent {Q : Int32 → Sh → SCTy} (H : XI sh rk q ci ai n m pu) (hQ : ∀ r, Q r sh ci ai al) : P_X11_spent sh ci ai al q Q := by
  obtain ⟨t, ht, t1⟩ := H.met
  exact ⟨H.own, t, ht, t1, hQ _⟩
theorem ok_lists {Q : Int32 → Sh → SCTy} (H : XI sh rk q ci ai n m pu) (hQ : Q (nI n) sh ci ai al) : P_X11_lists sh ci ai al q Q := ⟨H.own, by rw [H.made]; exact hQ⟩
/-- the row grows by one, while it has room -/
theorem ok_addToRow {z : Int64} {f : Int32} {Q : Int32 → Sh → SCTy} (H : XI sh rk q ci ai n m pu) (hf : r8 f) (hQ : m < 100 → ∀ ci' ai' al', XI sh rk q ci' ai' n (m + 1) pu → Q (nI (m + 1)) sh ci' ai' al') (hU : ¬ m < 100 → X "java/lang/UnsupportedOperationException") : P_X11_addToRow sh ci ai al q z f Q X := by
  obtain ⟨b, hb, b1, b2, b3⟩ := H.row
  obtain ⟨g, hg, g1, g2, g3, g4⟩ := H.fate
  have hm := H.m100
  refine ⟨H.own, fun h => ?_, fun h => ?_⟩
  · have hlt : m < 100 := by
      rcases Nat.lt_or_ge m 100 with e | e
      · exact e
      · rw [H.long, show m = 100 by omega] at h; exact absurd h (by decide)
    have hv : vp_in (ci q 5) 100 := by rw [H.long]; exact vp_in_nI hlt (by omega)
    refine ⟨b, hb, ⟨b1, b2⟩, by rw [b3]; exact hv, g, hg, ⟨g1, g2⟩, by rw [g3]; exact hv, ?_⟩
    rw [up_same, hf.nar, H.long, nI_clamp (by omega), nIs]
    refine hQ hlt _ _ _ ⟨H.wf, ((H.num.mark hf).obj H.own.2), H.own, H.met, H.pile, H.row, (⟨g, hg, g1, g2, g3, fun j hj => ?_⟩), H.rank, H.n24, (by omega), ?_, (up_same), ?_⟩
    · rw [upd2]; split
      · exact hf.ne
      · rename_i hne
        exact g4 j (by have : ¬ j = m := fun e => hne ⟨rfl, e⟩; omega)
    · rw [up2 (fun e => absurd e.2 (by decide))]; exact H.made
    · rw [up2 (fun e => absurd e.2 (by decide))]; exact H.purse
  · refine hU (fun hlt => h ?_)
    rw [H.long]; exact Int32.not_le.mp (nI_ge (a := m) (b := 100) hlt (by omega))
theorem ok_put {z : Int64} {Q : Int32 → Sh → SCTy} (H : XI sh rk q ci ai n m pu) (hQ : m < 100 → ∀ ci' ai' al', XI sh rk q ci' ai' n (m + 1) pu → Q (nI (m + 1)) sh ci' ai' al') (hU : ¬ m < 100 → X "java/lang/UnsupportedOperationException") : P_X11_put sh ci ai al q z Q X := ⟨H.own, ok_addToRow H r8_1 hQ hU⟩
theorem ok_hole {Q : Int32 → Sh → SCTy} (H : XI sh rk q ci ai n m pu) (hQ : (p0 = 0 ∨ p0 = 1) → m < 100 → ∀ ci' ai' al', XI sh rk q ci' ai' n (m + 1) pu → Q (nI (m + 1)) sh ci' ai' al') (hA : ¬ (p0 = 0 ∨ p0 = 1) → X "java/lang/IllegalArgumentException") (hU : (p0 = 0 ∨ p0 = 1) → ¬ m < 100 → X "java/lang/UnsupportedOperationException") : P_X11_hole sh ci ai al q p0 Q X :=
  ⟨H.own, fun e => ok_addToRow H (r8_n (n := 4) (by decide) (by decide)) (hQ (Or.inl e)) (hU (Or.inl e)), fun e0 => ⟨fun e => ok_addToRow H (r8_n (n := 8) (by decide) (by decide)) (hQ (Or.inr e)) (hU (Or.inr e)), fun e1 => hA (fun h => h.elim e0 e1)⟩⟩
theorem ok_steps {Q : Int32 → Sh → SCTy} (H : XI sh rk q ci ai n m pu) (hQ : (¬ p0 < 1 ∧ p0 ≤ 5000) → ∀ ci', XI sh rk q ci' ai n m p0 → Q pu sh ci' ai al) (hA : ¬ (¬ p0 < 1 ∧ p0 ≤ 5000) → X "java/lang/IllegalArgumentException") : P_X11_steps sh ci ai al q p0 Q X := by
  refine ⟨H.own, fun h => hA (fun h2 => h2.1 h), fun h => ⟨fun h5 => ?_, fun h5 => hA (fun h2 => h5 h2.2)⟩⟩
  rw [H.purse]
  refine hQ ⟨h, h5⟩ _ ⟨H.wf, H.num.obj H.own.2, H.own, H.met, H.pile, H.row, H.fate, H.rank, H.n24, H.m100, ?_, ?_, up_same⟩
  · rw [up2 (fun e => absurd e.2 (by decide))]; exact H.made
  · rw [up2 (fun e => absurd e.2 (by decide))]; exact H.long
end XA
