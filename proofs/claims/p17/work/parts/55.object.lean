section H55
/-- what holds of the object between calls: n lists, m numbers in the row, pu steps -/
def XI (sh : Sh) (rk : Nat → Nat) (q : Nat) (ci ai : Nat → Nat → Int32) (n m : Nat) (pu : Int32) : Prop := (Wf sh rk) ∧ (CI sh ci ai) ∧ (q ∈ sL sh ∧ sK sh q = 10) ∧ (∃ t, sR sh q 0 = some t ∧ t ∈ sL sh ∧ sK sh t = 5) ∧ (∃ p, sR sh q 1 = some p ∧ p ∈ sL sh ∧ sK sh p = 23 ∧ sN sh p = 24 ∧ ∀ i, i < n → ∃ z, sQ sh p i = some z ∧ LZ sh z) ∧ (∃ b, sR sh q 2 = some b ∧ b ∈ sL sh ∧ sK sh b = 22 ∧ sN sh b = 100) ∧ (∃ b, sR sh q 3 = some b ∧ b ∈ sL sh ∧ sK sh b = 21 ∧ sN sh b = 100 ∧ ∀ j, j < m → ¬ ai b j = 0) ∧ (∀ z, LZ sh z → rk z < n) ∧ (n ≤ 24) ∧ (m ≤ 100) ∧ (ci q 4 = nI n) ∧ (ci q 5 = nI m) ∧ (ci q 6 = pu)
theorem XI.wf {sh : Sh} {rk : Nat → Nat} {q : Nat} {ci ai : Nat → Nat → Int32} {n m : Nat} {pu : Int32} (h : XI sh rk q ci ai n m pu) : Wf sh rk := h.1
theorem XI.num {sh : Sh} {rk : Nat → Nat} {q : Nat} {ci ai : Nat → Nat → Int32} {n m : Nat} {pu : Int32} (h : XI sh rk q ci ai n m pu) : CI sh ci ai := h.2.1
theorem XI.own {sh : Sh} {rk : Nat → Nat} {q : Nat} {ci ai : Nat → Nat → Int32} {n m : Nat} {pu : Int32} (h : XI sh rk q ci ai n m pu) : q ∈ sL sh ∧ sK sh q = 10 := h.2.2.1
theorem XI.met {sh : Sh} {rk : Nat → Nat} {q : Nat} {ci ai : Nat → Nat → Int32} {n m : Nat} {pu : Int32} (h : XI sh rk q ci ai n m pu) : ∃ t, sR sh q 0 = some t ∧ t ∈ sL sh ∧ sK sh t = 5 := h.2.2.2.1
theorem XI.pile {sh : Sh} {rk : Nat → Nat} {q : Nat} {ci ai : Nat → Nat → Int32} {n m : Nat} {pu : Int32} (h : XI sh rk q ci ai n m pu) : ∃ p, sR sh q 1 = some p ∧ p ∈ sL sh ∧ sK sh p = 23 ∧ sN sh p = 24 ∧ ∀ i, i < n → ∃ z, sQ sh p i = some z ∧ LZ sh z := h.2.2.2.2.1
theorem XI.row {sh : Sh} {rk : Nat → Nat} {q : Nat} {ci ai : Nat → Nat → Int32} {n m : Nat} {pu : Int32} (h : XI sh rk q ci ai n m pu) : ∃ b, sR sh q 2 = some b ∧ b ∈ sL sh ∧ sK sh b = 22 ∧ sN sh b = 100 := h.2.2.2.2.2.1
theorem XI.fate {sh : Sh} {rk : Nat → Nat} {q : Nat} {ci ai : Nat → Nat → Int32} {n m : Nat} {pu : Int32} (h : XI sh rk q ci ai n m pu) : ∃ b, sR sh q 3 = some b ∧ b ∈ sL sh ∧ sK sh b = 21 ∧ sN sh b = 100 ∧ ∀ j, j < m → ¬ ai b j = 0 := h.2.2.2.2.2.2.1
theorem XI.rank {sh : Sh} {rk : Nat → Nat} {q : Nat} {ci ai : Nat → Nat → Int32} {n m : Nat} {pu : Int32} (h : XI sh rk q ci ai n m pu) : ∀ z, LZ sh z → rk z < n := h.2.2.2.2.2.2.2.1
theorem XI.n24 {sh : Sh} {rk : Nat → Nat} {q : Nat} {ci ai : Nat → Nat → Int32} {n m : Nat} {pu : Int32} (h : XI sh rk q ci ai n m pu) : n ≤ 24 := h.2.2.2.2.2.2.2.2.1
theorem XI.m100 {sh : Sh} {rk : Nat → Nat} {q : Nat} {ci ai : Nat → Nat → Int32} {n m : Nat} {pu : Int32} (h : XI sh rk q ci ai n m pu) : m ≤ 100 := h.2.2.2.2.2.2.2.2.2.1
theorem XI.made {sh : Sh} {rk : Nat → Nat} {q : Nat} {ci ai : Nat → Nat → Int32} {n m : Nat} {pu : Int32} (h : XI sh rk q ci ai n m pu) : ci q 4 = nI n := h.2.2.2.2.2.2.2.2.2.2.1
theorem XI.long {sh : Sh} {rk : Nat → Nat} {q : Nat} {ci ai : Nat → Nat → Int32} {n m : Nat} {pu : Int32} (h : XI sh rk q ci ai n m pu) : ci q 5 = nI m := h.2.2.2.2.2.2.2.2.2.2.2.1
theorem XI.purse {sh : Sh} {rk : Nat → Nat} {q : Nat} {ci ai : Nat → Nat → Int32} {n m : Nat} {pu : Int32} (h : XI sh rk q ci ai n m pu) : ci q 6 = pu := h.2.2.2.2.2.2.2.2.2.2.2.2
def inL (p : Int32) (n : Nat) : Prop := ¬ p < 0 ∧ ¬ nI n ≤ p
def inO (p hi : Int32) : Prop := ¬ p < 0 ∧ p ≤ hi
section XA
variable {sh : Sh} {rk : Nat → Nat} {ci ai ci1 ai1 : Nat → Nat → Int32} {al : Nat → Nat → Int64} {q n m : Nat} {pu p0 p1 x : Int32} {X : String → Prop}
theorem CI.obj {f : Nat → Int32} (h : CI sh ci ai) (h10 : sK sh q = 10) : CI sh (va_up ci q f) ai := by
  refine ⟨h.1, h.2.1, fun z hz hk => ?_, fun z hz => ?_⟩
  · rw [va_up_ne _ _ (fun e => by rw [e, h10] at hk; cases hk)]; exact h.2.2.1 z hz hk
  · rw [va_up_ne _ _ (fun e => by have := hz.2; rw [e, h10] at this; exact absurd this (by decide))]; exact h.2.2.2 z hz
theorem XI.ask (H : XI sh rk q ci ai n m pu) (h : CI sh ci1 ai1) (hR : Rel sh rk 24 ci ai ci1 ai1) : XI sh rk q ci1 ai1 n m pu := by
  obtain ⟨b, b1, b2, b3, b4, b5⟩ := H.fate
  have e := hR.2.2 q H.own.2
  exact ⟨H.wf, (h), H.own, H.met, H.pile, H.row, (⟨b, b1, b2, b3, b4, fun j hj => hR.1 b b2 b3 j (b5 j hj)⟩), H.rank, H.n24, H.m100, (by rw [e]; exact H.made), (by rw [e]; exact H.long), (by rw [e]; exact H.purse)⟩
theorem XI.fld {j : Nat} (H : XI sh rk q ci ai n m pu) (hj : 6 < j) : XI sh rk q (va_up ci q (va_up (ci q) j x)) ai n m pu := by
  have e : ∀ i, i ≤ 6 → va_up ci q (va_up (ci q) j x) q i = ci q i := fun i hi => up2 (fun e => by omega)
  exact ⟨H.wf, (H.num.obj H.own.2), H.own, H.met, H.pile, H.row, H.fate, H.rank, H.n24, H.m100, (by rw [e 4 (by decide)]; exact H.made), (by rw [e 5 (by decide)]; exact H.long), (by rw [e 6 (by decide)]; exact H.purse)⟩
theorem ok_finish {z : Int64} {Q : Int64 → Sh → SCTy} (H : XI sh rk q ci ai n m pu) (hQ : ∀ r ci', XI sh rk q ci' ai n m pu → Q r sh ci' ai al) : P_X11_finish sh ci ai al q p0 z Q := by
  have st : ∀ {r : Int64} {x y : Int32}, Q r sh (va_up (va_up ci q (va_up (ci q) 8 x)) q (va_up ((va_up ci q (va_up (ci q) 8 x)) q) 7 y)) ai al := fun {r x y} => hQ _ _ ((H.fld (j := 8) (by decide)).fld (j := 7) (by decide))
  refine ⟨H.own, fun _ => ⟨fun _ => st, fun _ => ⟨fun _ => st, fun _ => ⟨fun _ => st, fun _ => ⟨fun _ => st, fun _ => st⟩⟩⟩⟩, fun _ => ⟨fun _ => st, fun _ => ⟨fun _ => st, fun _ => ⟨fun _ => st, fun _ => ⟨fun _ => st, fun _ => st⟩⟩⟩⟩⟩
theorem ok_begin {t : Nat} {Q : SCTy} (H : XI sh rk q ci ai n m pu) (ht : t ∈ sL sh ∧ sK sh t = 5) (hQ : ∀ ci', XI sh rk q ci' ai n m pu → Q ci' ai al) : P_X6_begin sh ci ai al t p0 Q := by
  have h5 : ¬ sK sh t = 10 := fun e => absurd (ht.2.symm.trans e) (by decide)
  have h3 : ∀ {j : Nat}, sK sh t = 3 → j ≠ 6 := fun e => absurd (ht.2.symm.trans e) (by decide)
  exact ⟨ht, hQ _ (H.ask ((H.num.fld (by decide) h3).fld (by decide) h3) ((Rel.fld (by decide) h5).tr (Rel.fld (by decide) h5)))⟩
theorem ok_listOf {Q : Nat → Prop} (H : XI sh rk q ci ai n m pu) (hQ : inL p0 n → ∀ z, LZ sh z → Q z) (hI : ¬ inL p0 n → X "java/lang/IndexOutOfBoundsException") : P_X11_listOf sh ci ai al q p0 Q X := by
  obtain ⟨p, hp, p1, p2, p3, p4⟩ := H.pile
  have h24 := H.n24
  refine ⟨H.own, fun h => hI (fun c => c.1 h), fun h0 => ⟨fun h => hI (fun c => c.2 (by rw [← H.made]; exact h)), fun h => ?_⟩⟩
  rw [H.made] at h
  obtain ⟨j, hj, ej, -⟩ := pk_mu h0 h (show n < 2 ^ 31 by omega)
  obtain ⟨z, hz, hzl⟩ := p4 j hj
  refine ⟨p, hp, ⟨p1, p2⟩, fun hle => ?_, fun _ => ⟨?_, fun hn => ?_, fun z' hz' => ?_⟩⟩
  · rw [p3, ej] at hle; exact absurd hle (nI_ge (by omega) (by omega))
  · rw [p3, ej]; exact vp_in_nI (by omega) (by omega)
  · rw [ej, nI_clamp (by omega), hz] at hn; cases hn
  · rw [ej, nI_clamp (by omega), hz] at hz'; cases hz'; exact hQ ⟨h0, h⟩ z hzl
abbrev KA (sh : Sh) (rk : Nat → Nat) (q n m : Nat) (pu : Int32) (Q : Int64 → Sh → SCTy) : Prop := ∀ r ci' ai' al', XI sh rk q ci' ai' n m pu → Q r sh ci' ai' al'
theorem ok_at {Q : Int64 → Sh → SCTy} (H : XI sh rk q ci ai n m pu) (hQ : KA sh rk q n m pu Q) (hI : ¬ inL p0 n → X "java/lang/IndexOutOfBoundsException") (hA : inL p0 n → ¬ 0 ≤ p1 → X "java/lang/IllegalArgumentException") : P_X11_at sh ci ai al q p0 p1 Q X := by
  obtain ⟨t, ht, t1⟩ := H.met
  refine ⟨H.own, ok_listOf H (fun iL z hz => ⟨fun _ => ⟨t, ht, t1, ok_begin H t1 (fun c1 H1 => ⟨hz, ok_R H1.wf hz H1.num (fun y c a l e1 e2 e3 => ?_)⟩)⟩, fun h => hA iL h⟩) hI⟩
  have H2 := H1.ask e2 e3
  refine ⟨fun _ => ok_W H2.wf hz H2.num (fun y c a l e1 e2 e3 => ok_number30 H2.wf hz (fun r => ok_finish (H2.ask e2 e3) (fun r c h => hQ _ _ _ _ h))), fun _ => ⟨fun _ => ok_finish H2 (fun r c h => hQ _ _ _ _ h), fun _ => ok_finish H2 (fun r c h => hQ _ _ _ _ h)⟩⟩
theorem ok_size {Q : Int64 → Sh → SCTy} (H : XI sh rk q ci ai n m pu) (hQ : KA sh rk q n m pu Q) (hI : ¬ inL p0 n → X "java/lang/IndexOutOfBoundsException") : P_X11_size sh ci ai al q p0 Q X := by
  obtain ⟨t, ht, t1⟩ := H.met
  refine ⟨H.own, ok_listOf H (fun _ z hz => ⟨t, ht, t1, ok_begin H t1 (fun c1 H1 => ⟨hz, hz, ok_R H1.wf hz H1.num (fun y c a l e1 e2 e3 => ?_)⟩)⟩) hI⟩
  have H2 := H1.ask e2 e3
  exact ⟨fun _ => ok_there hz (fun r => ok_finish H2 (fun r c h => hQ _ _ _ _ h)), fun _ => ok_there hz (fun r => ok_finish H2 (fun r c h => hQ _ _ _ _ h))⟩
theorem ok_last {Q : Int64 → Sh → SCTy} (H : XI sh rk q ci ai n m pu) (hQ : KA sh rk q n m pu Q) (hI : ¬ inL p0 n → X "java/lang/IndexOutOfBoundsException") : P_X11_last sh ci ai al q p0 Q X := by
  obtain ⟨t, ht, t1⟩ := H.met
  refine ⟨H.own, ok_listOf H (fun _ z hz => ⟨t, ht, t1, ok_begin H t1 (fun c1 H1 => ⟨hz, hz, ok_R H1.wf hz H1.num (fun y c a l e1 e2 e3 => ?_)⟩)⟩) hI⟩
  have H2 := H1.ask e2 e3
  refine ⟨fun _ => ok_there hz (fun r => ⟨fun _ => ok_W H2.wf hz H2.num (fun y c a l e1 e2 e3 => ok_number30 H2.wf hz (fun r => ok_finish (H2.ask e2 e3) (fun r c h => hQ _ _ _ _ h))), fun _ => ok_finish H2 (fun r c h => hQ _ _ _ _ h)⟩), fun _ => ok_finish H2 (fun r c h => hQ _ _ _ _ h)⟩
theorem ok_find {z : Int64} {Q : Int64 → Sh → SCTy} (H : XI sh rk q ci ai n m pu) (hQ : KA sh rk q n m pu Q) (hI : ¬ inL p0 n → X "java/lang/IndexOutOfBoundsException") (hA : inL p0 n → ¬ inO p1 3 → X "java/lang/IllegalArgumentException") : P_X11_find sh ci ai al q p0 p1 z Q X := by
  obtain ⟨t, ht, t1⟩ := H.met
  have fin : ∀ {ci ai : Nat → Nat → Int32} {al : Nat → Nat → Int64} {p : Int32} {y : Int64}, XI sh rk q ci ai n m pu → P_X11_finish sh ci ai al q p y Q := fun h => ok_finish h (fun r c h => hQ _ _ _ _ h)
  have key : ∀ (f : Nat) (x6 : Int32) (w : Nat) (ci ai : Nat → Nat → Int32) (al : Nat → Nat → Int64), (401 - x6.toInt).toNat < f → LZ sh w → XI sh rk q ci ai n m pu → P_X11_find_25 Q q f sh ci ai al p1 z w x6 := by
    intro f
    induction f with
    | zero => intro x6 w ci ai al hn; exact absurd hn (Nat.not_lt_zero _)
    | succ f ih =>
      intro x6 w ci ai al hn hw H
      refine ⟨fun _ => ⟨H.own, fin H⟩, fun hx => ⟨hw, ok_R H.wf hw H.num (fun y c a l e1 e2 e3 => ?_)⟩⟩
      have H2 := H.ask e2 e3
      refine ⟨fun _ => ok_W H2.wf hw H2.num (fun y c a l e1 e2 e3 => ⟨fun _ => ⟨H.own, fin (H2.ask e2 e3)⟩, fun _ => ok_number30 H2.wf hw (fun r => ok_meets ⟨fun _ => ih _ _ _ _ _ ?_ hw (H2.ask e2 e3), fun h => absurd rfl h⟩ ⟨fun h => absurd h (by decide), fun _ => ⟨H.own, fin (H2.ask e2 e3)⟩⟩)⟩), fun _ => ⟨fun _ => ⟨H.own, fin H2⟩, fun _ => ⟨H.own, fin H2⟩⟩⟩
      have := inc400 hx
      omega
  exact ⟨H.own, ok_listOf H (fun iL w hw => ⟨fun h => hA iL (fun c => c.1 h), fun _ => ⟨fun _ => ⟨t, ht, t1, ok_begin H t1 (fun c1 H1 => ⟨_, key _ _ _ _ _ _ (Nat.lt_succ_self _) hw H1⟩)⟩, fun h => hA iL (fun c => h c.2)⟩⟩) hI⟩
theorem ok_fold {z : Int64} {Q : Int64 → Sh → SCTy} (H : XI sh rk q ci ai n m pu) (hQ : KA sh rk q n m pu Q) (hI : ¬ inL p0 n → X "java/lang/IndexOutOfBoundsException") (hA : inL p0 n → ¬ inO p1 8 → X "java/lang/IllegalArgumentException") : P_X11_fold sh ci ai al q p0 p1 z Q X := by
  obtain ⟨t, ht, t1⟩ := H.met
  have fin : ∀ {ci ai : Nat → Nat → Int32} {al : Nat → Nat → Int64} {p : Int32} {y : Int64}, XI sh rk q ci ai n m pu → P_X11_finish sh ci ai al q p y Q := fun h => ok_finish h (fun r c h => hQ _ _ _ _ h)
  have key : ∀ (f : Nat) (x9 x8 : Int32) (x6 : Int64) (w : Nat) (ci ai : Nat → Nat → Int32) (al : Nat → Nat → Int64), (401 - x9.toInt).toNat < f → LZ sh w → XI sh rk q ci ai n m pu → P_X11_fold_31 Q q f sh ci ai al p1 w x6 x8 x9 := by
    intro f
    induction f with
    | zero => intro x9 x8 x6 w ci ai al hn; exact absurd hn (Nat.not_lt_zero _)
    | succ f ih =>
      intro x9 x8 x6 w ci ai al hn hw H
      refine ⟨fun _ => ⟨H.own, fin H⟩, fun hx => ⟨hw, ok_R H.wf hw H.num (fun y c a l e1 e2 e3 => ?_)⟩⟩
      have hi := inc400 hx
      have go : ∀ {x8 : Int32} {x6 : Int64} {ci ai : Nat → Nat → Int32} {al : Nat → Nat → Int64}, XI sh rk q ci ai n m pu → P_X11_fold_31 Q q f sh ci ai al p1 w x6 x8 (x9 + 1) := fun h => ih _ _ _ _ _ _ _ (by omega) hw h
      have H2 := H.ask e2 e3
      refine ⟨fun _ => ⟨fun _ => ok_W H2.wf hw H2.num (fun y c a l e1 e2 e3 => ok_number30 H2.wf hw (fun r => ?_)), fun _ => go H2⟩, fun _ => ⟨fun _ => ⟨H.own, fin H2⟩, fun _ => ⟨H.own, fin H2⟩⟩⟩
      have H3 := H2.ask e2 e3
      exact ⟨fun _ => ⟨fun _ => ⟨H.own, fin H3⟩, fun _ => ⟨fun _ => ok_reckon (fun _ => go H3), fun _ => ⟨H.own, fin H3⟩⟩⟩, fun _ => ok_dbn ⟨fun _ => ok_reckon (fun _ => go H3), fun h => absurd rfl h⟩ ⟨fun h => absurd h (by decide), fun _ => ⟨fun _ => ok_reckon (fun _ => go H3), fun _ => ⟨H.own, fin H3⟩⟩⟩⟩
  exact ⟨H.own, ok_listOf H (fun iL w hw => ⟨fun h => hA iL (fun c => c.1 h), fun _ => ⟨fun _ => ⟨t, ht, t1, ok_begin H t1 (fun c1 H1 => ⟨_, key _ _ _ _ _ _ _ _ (Nat.lt_succ_self _) hw H1⟩)⟩, fun h => hA iL (fun c => h c.2)⟩⟩) hI⟩
theorem ok_reached {Q : Int32 → Sh → SCTy} (H : XI sh rk q ci ai n m pu) (hQ : ∀ r, Q r sh ci ai al) (hI : ¬ inL p0 n → X "java/lang/IndexOutOfBoundsException") : P_X11_reached sh ci ai al q p0 Q X :=
  ⟨H.own, ok_listOf H (fun _ z hz => ⟨hz, hQ _⟩) hI⟩
theorem ok_worked {Q : Int32 → Sh → SCTy} (H : XI sh rk q ci ai n m pu) (hQ : ∀ r, Q r sh ci ai al) (hI : ¬ inL p0 n → X "java/lang/IndexOutOfBoundsException") : P_X11_worked sh ci ai al q p0 p1 Q X :=
  ⟨H.own, ok_listOf H (fun _ z hz => ⟨fun _ => hQ _, fun _ => ⟨hz, ok_there hz (fun r => ⟨fun _ => hQ _, fun _ => ok_isWorked H.wf hz (by have := (H.wf z hz).2.2.2.2.2.2.2.2.2; omega) (fun r hr => ⟨fun _ => hQ _, fun _ => hQ _⟩)⟩)⟩⟩) hI⟩
theorem ok_outcome {Q : Int32 → Sh → SCTy} (H : XI sh rk q ci ai n m pu) (hQ : ∀ r, Q r sh ci ai al) : P_X11_outcome sh ci ai al q Q := ⟨H.own, hQ _⟩
theorem ok_error {Q : Int32 → Sh → SCTy} (H : XI sh rk q ci ai n m pu) (hQ : ∀ r, Q r sh ci ai al) : P_X11_error sh ci ai al q Q := ⟨H.own, hQ _⟩
theorem ok_spent {Q : Int32 → Sh → SCTy} (H : XI sh rk q ci ai n m pu) (hQ : ∀ r, Q r sh ci ai al) : P_X11_spent sh ci ai al q Q := by
  obtain ⟨t, ht, t1⟩ := H.met
  exact ⟨H.own, t, ht, t1, hQ _⟩
theorem ok_lists {Q : Int32 → Sh → SCTy} (H : XI sh rk q ci ai n m pu) (hQ : Q (nI n) sh ci ai al) : P_X11_lists sh ci ai al q Q := ⟨H.own, by rw [H.made]; exact hQ⟩
/-- the row grows by one, while it has room -/
theorem ok_addToRow {z : Int64} {f : Int32} {Q : Int32 → Sh → SCTy} (H : XI sh rk q ci ai n m pu) (hf : r8 f) (hQ : m < 100 → ∀ ci' ai' al', XI sh rk q ci' ai' n (m + 1) pu → Q (nI (m + 1)) sh ci' ai' al') (hU : ¬ m < 100 → X "java/lang/UnsupportedOperationException") : P_X11_addToRow sh ci ai al q z f Q X := by
  obtain ⟨b, hb, b1, b2, b3⟩ := H.row
  obtain ⟨g, hg, g1, g2, g3, g4⟩ := H.fate
  have hm := H.m100
  refine ⟨H.own, fun h => ?_, fun h => ?_⟩
  · have hlt : m < 100 := by
      rcases Nat.lt_or_ge m 100 with e | e
      · exact e
      · rw [H.long, show m = 100 by omega] at h; exact absurd h (by decide)
    have hv : vp_in (ci q 5) 100 := by rw [H.long]; exact vp_in_nI hlt (by omega)
    refine ⟨b, hb, ⟨b1, b2⟩, by rw [b3]; exact hv, g, hg, ⟨g1, g2⟩, by rw [g3]; exact hv, ?_⟩
    rw [up_same, hf.nar, H.long, nI_clamp (by omega), nIs]
    refine hQ hlt _ _ _ ⟨H.wf, ((H.num.mark hf).obj H.own.2), H.own, H.met, H.pile, H.row, (⟨g, hg, g1, g2, g3, fun j hj => ?_⟩), H.rank, H.n24, (by omega), ?_, (up_same), ?_⟩
    · rw [upd2]; split
      · exact hf.ne
      · rename_i hne
        exact g4 j (by have : ¬ j = m := fun e => hne ⟨rfl, e⟩; omega)
    · rw [up2 (fun e => absurd e.2 (by decide))]; exact H.made
    · rw [up2 (fun e => absurd e.2 (by decide))]; exact H.purse
  · refine hU (fun hlt => h ?_)
    rw [H.long]; exact Int32.not_le.mp (nI_ge (a := m) (b := 100) hlt (by omega))
theorem ok_put {z : Int64} {Q : Int32 → Sh → SCTy} (H : XI sh rk q ci ai n m pu) (hQ : m < 100 → ∀ ci' ai' al', XI sh rk q ci' ai' n (m + 1) pu → Q (nI (m + 1)) sh ci' ai' al') (hU : ¬ m < 100 → X "java/lang/UnsupportedOperationException") : P_X11_put sh ci ai al q z Q X := ⟨H.own, ok_addToRow H r8_1 hQ hU⟩
theorem ok_hole {Q : Int32 → Sh → SCTy} (H : XI sh rk q ci ai n m pu) (hQ : (p0 = 0 ∨ p0 = 1) → m < 100 → ∀ ci' ai' al', XI sh rk q ci' ai' n (m + 1) pu → Q (nI (m + 1)) sh ci' ai' al') (hA : ¬ (p0 = 0 ∨ p0 = 1) → X "java/lang/IllegalArgumentException") (hU : (p0 = 0 ∨ p0 = 1) → ¬ m < 100 → X "java/lang/UnsupportedOperationException") : P_X11_hole sh ci ai al q p0 Q X :=
  ⟨H.own, fun e => ok_addToRow H (r8_n (n := 4) (by decide) (by decide)) (hQ (Or.inl e)) (hU (Or.inl e)), fun e0 => ⟨fun e => ok_addToRow H (r8_n (n := 8) (by decide) (by decide)) (hQ (Or.inr e)) (hU (Or.inr e)), fun e1 => hA (fun h => h.elim e0 e1)⟩⟩
theorem ok_steps {Q : Int32 → Sh → SCTy} (H : XI sh rk q ci ai n m pu) (hQ : (¬ p0 < 1 ∧ p0 ≤ 5000) → ∀ ci', XI sh rk q ci' ai n m p0 → Q pu sh ci' ai al) (hA : ¬ (¬ p0 < 1 ∧ p0 ≤ 5000) → X "java/lang/IllegalArgumentException") : P_X11_steps sh ci ai al q p0 Q X := by
  refine ⟨H.own, fun h => hA (fun h2 => h2.1 h), fun h => ⟨fun h5 => ?_, fun h5 => hA (fun h2 => h5 h2.2)⟩⟩
  rw [H.purse]
  refine hQ ⟨h, h5⟩ _ ⟨H.wf, H.num.obj H.own.2, H.own, H.met, H.pile, H.row, H.fate, H.rank, H.n24, H.m100, ?_, ?_, up_same⟩
  · rw [up2 (fun e => absurd e.2 (by decide))]; exact H.made
  · rw [up2 (fun e => absurd e.2 (by decide))]; exact H.long
end XA
end H55
section H56
/-- a list z under construction, over the shape S0 -/
def Nw (S0 : Sh) (z K : Nat) (sh : Sh) (ci0 ai0 ci ai : Nat → Nat → Int32) : Prop :=
  z ∉ sL S0 ∧ z ∈ sL sh ∧ sK sh z = K ∧
  (∀ b, b ∈ sL S0 → b ∈ sL sh ∧ sK sh b = sK S0 b ∧ sN sh b = sN S0 b ∧ sR sh b = sR S0 b ∧ sQ sh b = sQ S0 b ∧ ci b = ci0 b ∧ ai b = ai0 b) ∧
  (∀ b, b ∈ sL sh → b ∉ sL S0 → b ≠ z → sK sh b = 20 ∨ sK sh b = 22 ∨ (sK sh b = 21 ∧ ∀ j, m8 (ai b j))) ∧
  ci z 3 = 0 ∧ ci z 4 = 0
def F5 (sh : Sh) (z t : Nat) : Prop := sR sh z 0 = some t ∧ (∃ b, sR sh z 1 = some b ∧ b ∈ sL sh ∧ sK sh b = 22 ∧ sN sh b ≤ 400) ∧ (∃ b, sR sh z 2 = some b ∧ b ∈ sL sh ∧ sK sh b = 21 ∧ sN sh b ≤ 400)
/-- what the new list's own fields are, once it is made -/
def Wz (S0 : Sh) (sh : Sh) (z K : Nat) (ai0 ci : Nat → Nat → Int32) : Prop :=
  (∀ k, lref K k → ∀ y, sR sh z k = some y → LZ S0 y) ∧
  (¬ K = 0 → ¬ K = 3 → ∃ y, sR sh z 5 = some y) ∧
  (K = 3 → r8 (ci z 6) ∧ ∃ b, sR sh z 5 = some b ∧ b ∈ sL S0 ∧ sK S0 b = 21 ∧ sN S0 b ≤ 400 ∧ ∀ j, j < sN S0 b → ¬ ai0 b j = 0) ∧
  (K = 6 → ∀ b, sR sh z 6 = some b → b ∈ sL sh ∧ sK sh b = 20 ∧ sN sh b ≤ 400) ∧
  (K = 8 → ∃ b, sR sh z 6 = some b ∧ b ∈ sL sh ∧ sK sh b = 20 ∧ sN sh b ≤ 400) ∧
  (K = 9 → ∃ b, sR sh z 8 = some b ∧ b ∈ sL sh ∧ sK sh b = 20 ∧ sN sh b ≤ 400)
section XN
variable {S0 sh : Sh} {rk : Nat → Nat} {ci0 ai0 ci ai ai' : Nat → Nat → Int32} {al : Nat → Nat → Int64} {q z K n m t : Nat} {pu x : Int32}
theorem le_eq {a b c : Nat} (h : a = b) (h2 : b ≤ c) : a ≤ c := h ▸ h2
theorem va_self {α : Type} {f : Nat → α} {q : Nat} {x : α} : va_up f q x q = x := by simp only [va_up, if_true]
theorem sR_z {k j : Nat} {r : Option Nat} : sR (shR sh z k r) z j = if j = k then r else sR sh z j := by
  show va_up (sR sh) z (va_up (sR sh z) k r) z j = _
  rw [va_self]; rfl
theorem Nw.O (hz : z ∉ sL S0) : Nw S0 z K (shO S0 z K) ci0 ai0 (va_up ci0 z (fun _ => 0)) ai0 := by
  refine ⟨hz, List.mem_append_right _ (List.mem_singleton.mpr rfl), va_self, fun b hb => ?_, fun b hb hb0 hbz => ?_, by rw [va_self], by rw [va_self]⟩
  · have hne : b ≠ z := fun e => hz (e ▸ hb)
    exact ⟨List.mem_append_left _ hb, va_up_ne _ _ hne, rfl, va_up_ne _ _ hne, rfl, va_up_ne _ _ hne, rfl⟩
  · rcases List.mem_append.mp hb with h | h
    · exact absurd h hb0
    · exact absurd (List.mem_singleton.mp h) hbz
theorem Nw.N {b kk ln : Nat} {cA : ClassId} (h : Nw S0 z K sh ci0 ai0 ci ai) (hb : b ∉ sL sh) (hai : ∀ c, c ≠ b → ai' c = ai c) (hk : kk = 20 ∨ kk = 22 ∨ (kk = 21 ∧ ∀ j, m8 (ai' b j))) : Nw S0 z K (shN sh b kk ln cA) ci0 ai0 ci ai' := by
  obtain ⟨h1, h2, h3, h4, h5, h6⟩ := h
  refine ⟨h1, List.mem_append_left _ h2, ?_, fun c hc => ?_, fun c hc hc0 hcz => ?_, h6⟩
  · have hne : z ≠ b := fun e => hb (e ▸ h2)
    exact (va_up_ne _ _ hne).trans h3
  · obtain ⟨c1, c2, c3, c4, c5, c6, c7⟩ := h4 c hc
    have hne : c ≠ b := fun e => hb (e ▸ c1)
    exact ⟨List.mem_append_left _ c1, (va_up_ne _ _ hne).trans c2, (va_up_ne _ _ hne).trans c3, c4, (va_up_ne _ _ hne).trans c5, c6, (hai c hne).trans c7⟩
  · by_cases e : c = b
    · have ek : sK (shN sh b kk ln cA) c = kk := by rw [e]; exact va_self
      rw [ek, e]; exact hk
    · have ek : sK (shN sh b kk ln cA) c = sK sh c := va_up_ne _ _ e
      rw [ek, hai c e]
      rcases List.mem_append.mp hc with h | h
      · exact h5 c h hc0 hcz
      · exact absurd (List.mem_singleton.mp h) e
theorem Nw.R {k : Nat} {r : Option Nat} (h : Nw S0 z K sh ci0 ai0 ci ai) : Nw S0 z K (shR sh z k r) ci0 ai0 ci ai := by
  obtain ⟨h1, h2, h3, h4, h5, h6⟩ := h
  refine ⟨h1, h2, h3, fun c hc => ?_, h5, h6⟩
  obtain ⟨c1, c2, c3, c4, c5, c6, c7⟩ := h4 c hc
  have hne : c ≠ z := fun e => h1 (e ▸ hc)
  exact ⟨c1, c2, c3, (va_up_ne _ _ hne).trans c4, c5, c6, c7⟩
theorem Nw.J {k : Nat} {y : Int64} (h : Nw S0 z K sh ci0 ai0 ci ai) : Nw S0 z K (shJ sh z k y) ci0 ai0 ci ai := h
theorem Nw.F {j : Nat} (h : Nw S0 z K sh ci0 ai0 ci ai) (hj : j ≠ 3 ∧ j ≠ 4) : Nw S0 z K sh ci0 ai0 (va_up ci z (va_up (ci z) j x)) ai := by
  obtain ⟨h1, h2, h3, h4, h5, h6, h7⟩ := h
  refine ⟨h1, h2, h3, fun c hc => ?_, h5, ?_, ?_⟩
  · obtain ⟨c1, c2, c3, c4, c5, c6, c7⟩ := h4 c hc
    have hne : c ≠ z := fun e => h1 (e ▸ hc)
    exact ⟨c1, c2, c3, c4, c5, (va_up_ne _ _ hne).trans c6, c7⟩
  · rw [up2 (fun e => hj.1 e.2.symm)]; exact h6
  · rw [up2 (fun e => hj.2 e.2.symm)]; exact h7
theorem F5.R {k : Nat} {r : Option Nat} (h : F5 sh z t) (hk : 2 < k) : F5 (shR sh z k r) z t := by
  have e : ∀ j, j ≤ 2 → sR (shR sh z k r) z j = sR sh z j := fun j hj => by rw [sR_z, if_neg (by omega)]
  unfold F5
  rw [e 0 (by decide), e 1 (by decide), e 2 (by decide)]
  exact h
theorem F5.N {b kk ln : Nat} {cA : ClassId} (h : F5 sh z t) (hb : b ∉ sL sh) : F5 (shN sh b kk ln cA) z t := by
  obtain ⟨h1, ⟨b1, c1, c2, c3, c4⟩, ⟨b2, d1, d2, d3, d4⟩⟩ := h
  have n1 : b1 ≠ b := fun e => hb (e ▸ c2)
  have n2 : b2 ≠ b := fun e => hb (e ▸ d2)
  exact ⟨h1, ⟨b1, c1, List.mem_append_left _ c2, (va_up_ne _ _ n1).trans c3, le_eq (va_up_ne _ _ n1) c4⟩, ⟨b2, d1, List.mem_append_left _ d2, (va_up_ne _ _ n2).trans d3, le_eq (va_up_ne _ _ n2) d4⟩⟩
/-- the start of every constructor: its own rows -/
theorem ok_init5 {b : Nat} {Q : Sh → SCTy} (hK : isZ K) (h : Nw S0 z K sh ci0 ai0 ci ai) (hb : b ∈ sL sh) (hk : sK sh b = 22) (hl : sN sh b ≤ 400)
    (hQ : ∀ sh' ai', Nw S0 z K sh' ci0 ai0 ci ai' → F5 sh' z t → (∀ k, 2 < k → sR sh' z k = sR sh z k) → Q sh' ci ai' al) : P_X5_init sh ci ai al z t b Q := by
  have hz : isZ (sK sh z) := by rw [h.2.2.1]; exact hK
  refine ⟨⟨h.2.1, hz⟩, ?_⟩
  rintro _ rfl
  refine ⟨⟨h.2.1, hz⟩, ?_⟩
  rintro _ rfl
  refine ⟨⟨hb, hk⟩, nI_pos (show sN sh b < 2 ^ 31 by omega), ?_, ?_⟩
  · show (nI (sN sh b)).toNatClampNeg ≤ 400
    rw [nI_clamp (by omega)]; exact hl
  rintro c cA _ hc rfl
  have hc' : c ∉ sL sh := hc
  have e1 : z ≠ c := fun e => hc' (e ▸ h.2.1)
  have e2 : b ≠ c := fun e => hc' (e ▸ hb)
  have N2 : Nw S0 z K (shN (shR (shR sh z 0 (some t)) z 1 (some b)) c 21 (nI (sN sh b)).toNatClampNeg cA) ci0 ai0 ci (va_up ai c (fun _ => 0)) := (h.R.R).N hc (fun d hd => va_up_ne _ _ hd) (Or.inr (Or.inr ⟨rfl, fun j => by rw [va_self]; exact ⟨0, by decide, rfl⟩⟩))
  have hz2 : isZ (sK (shN (shR (shR sh z 0 (some t)) z 1 (some b)) c 21 (nI (sN sh b)).toNatClampNeg cA) z) := by rw [N2.2.2.1]; exact hK
  refine ⟨⟨N2.2.1, hz2⟩, ?_⟩
  rintro _ rfl
  refine hQ _ _ N2.R ?_ (fun k hk2 => ?_)
  · refine ⟨?_, ⟨b, ?_, List.mem_append_left _ hb, (va_up_ne _ _ e2).trans hk, le_eq (va_up_ne _ _ e2) hl⟩, ⟨c, ?_, List.mem_append_right _ (List.mem_singleton.mpr rfl), va_self, le_eq va_self ?_⟩⟩
    · rw [sR_z, if_neg (by decide)]
      show sR (shR (shR sh z 0 (some t)) z 1 (some b)) z 0 = _
      rw [sR_z, if_neg (by decide), sR_z, if_pos rfl]
    · rw [sR_z, if_neg (by decide)]
      show sR (shR (shR sh z 0 (some t)) z 1 (some b)) z 1 = _
      rw [sR_z, if_pos rfl]
    · rw [sR_z, if_pos rfl]
    · show (nI (sN sh b)).toNatClampNeg ≤ 400
      rw [nI_clamp (by omega)]; exact hl
  · rw [sR_z, if_neg (by omega)]
    show sR (shR (shR sh z 0 (some t)) z 1 (some b)) z k = _
    rw [sR_z, if_neg (by omega), sR_z, if_neg (by omega)]
theorem ok_own {ln : Nat} {Q : Sh → SCTy} (hK : isZ K) (hl : ln ≤ 400) (h : Nw S0 z K sh ci0 ai0 ci ai)
    (hQ : ∀ sh' ai' al', Nw S0 z K sh' ci0 ai0 ci ai' → F5 sh' z t → Q sh' ci ai' al') : ∀ (q1 : Nat) (cA1 : ClassId) (sh2 : Sh), q1 ∉ sL sh → sh2 = shN sh q1 22 ln cA1 → (z ∈ sL sh2 ∧ isZ (sK sh2 z)) ∧ P_X5_init sh2 ci ai (va_up al q1 (fun _ => 0)) z t q1 Q := by
  rintro b cA _ hb rfl
  have N2 : Nw S0 z K (shN sh b 22 ln cA) ci0 ai0 ci ai := h.N hb (fun _ _ => rfl) (Or.inr (Or.inl rfl))
  refine ⟨⟨N2.2.1, by rw [N2.2.2.1]; exact hK⟩, ok_init5 hK N2 (List.mem_append_right _ (List.mem_singleton.mpr rfl)) va_self (le_eq va_self hl) (fun sh' ai' h1 h2 _ => hQ _ _ _ h1 h2)⟩
/-- a finished list is added -/
theorem Nw.wf (H : Wf S0 rk) (h : Nw S0 z K sh ci0 ai0 ci ai) (hr : ∀ y, LZ S0 y → rk y < n) (hn : n < 24) (ht : t ∈ sL S0 ∧ sK S0 t = 5) (h5 : F5 sh z t) (hz : Wz S0 sh z K ai0 ci) : Wf sh (va_up rk z n) := by
  obtain ⟨h1, h2, h3, h4, h6, h7⟩ := h
  have lift : ∀ {b kk : Nat}, b ∈ sL S0 → sK S0 b = kk → b ∈ sL sh ∧ sK sh b = kk := fun hb hk => ⟨(h4 _ hb).1, (h4 _ hb).2.1.trans hk⟩
  have liftN : ∀ {b kk : Nat}, b ∈ sL S0 → sK S0 b = kk → sN S0 b ≤ 400 → b ∈ sL sh ∧ sK sh b = kk ∧ sN sh b ≤ 400 := fun hb hk hl => ⟨(h4 _ hb).1, (h4 _ hb).2.1.trans hk, by rw [(h4 _ hb).2.2.1]; exact hl⟩
  have liftZ : ∀ {y : Nat}, LZ S0 y → LZ sh y ∧ va_up rk z n y = rk y := fun hy => ⟨⟨(h4 _ hy.1).1, by rw [(h4 _ hy.1).2.1]; exact hy.2⟩, va_up_ne _ _ (fun e => h1 (e ▸ hy.1))⟩
  intro y hy
  by_cases e : y = z
  · subst e
    rw [h3, va_self]
    obtain ⟨z1, z2, z3, z4, z5, z6⟩ := hz
    refine ⟨⟨t, h5.1, lift ht.1 ht.2⟩, h5.2.1, h5.2.2, fun k hk w hw => ?_, z2, fun e3 => ?_, z4, z5, z6, hn⟩
    · have := z1 k hk w hw
      exact ⟨(liftZ this).1, by rw [(liftZ this).2]; exact hr w this⟩
    · obtain ⟨-, b, b1, b2, b3, b4, -⟩ := z3 e3
      exact ⟨b, b1, liftN b2 b3 b4⟩
  · have hy0 : y ∈ sL S0 := by
      by_cases h0 : y ∈ sL S0
      · exact h0
      · have hzy := hy.2
        rcases h6 y hy.1 h0 e with hk | hk | ⟨hk, -⟩ <;> (rw [hk] at hzy; exact absurd hzy (by decide))
    obtain ⟨c1, c2, c3, c4, c5, c6, c7⟩ := h4 y hy0
    have hyz : LZ S0 y := ⟨hy0, by rw [← c2]; exact hy.2⟩
    rw [c2, c4, (liftZ hyz).2]
    obtain ⟨⟨a, a1, a2, a3⟩, ⟨b, b1, b2, b3, b4⟩, ⟨d, d1, d2, d3, d4⟩, w4, w5, w6, w7, w8, w9, w10⟩ := H y hyz
    refine ⟨⟨a, a1, lift a2 a3⟩, ⟨b, b1, liftN b2 b3 b4⟩, ⟨d, d1, liftN d2 d3 d4⟩, fun k hk w hw => ?_, w5, fun e3 => ?_, fun e6 g hg => ?_, fun e8 => ?_, fun e9 => ?_, w10⟩
    · obtain ⟨f1, f2⟩ := w4 k hk w hw
      exact ⟨(liftZ f1).1, by rw [(liftZ f1).2]; exact f2⟩
    · obtain ⟨g, g1, g2, g3, g4⟩ := w6 e3
      exact ⟨g, g1, liftN g2 g3 g4⟩
    · obtain ⟨g2, g3, g4⟩ := w7 e6 g hg
      exact liftN g2 g3 g4
    · obtain ⟨g, g1, g2, g3, g4⟩ := w8 e8
      exact ⟨g, g1, liftN g2 g3 g4⟩
    · obtain ⟨g, g1, g2, g3, g4⟩ := w9 e9
      exact ⟨g, g1, liftN g2 g3 g4⟩
theorem Nw.cin (hK : isZ K) (H : Wf S0 rk) (H2 : CI S0 ci0 ai0) (h : Nw S0 z K sh ci0 ai0 ci ai) (hz : Wz S0 sh z K ai0 ci) : CI sh ci ai := by
  obtain ⟨h1, h2, h3, h4, h6, h7, h8⟩ := h
  have old : ∀ y, y ∈ sL sh → ¬ y = z → isZ (sK sh y) → y ∈ sL S0 := fun y hy e hzy => by
    by_cases h0 : y ∈ sL S0
    · exact h0
    · rcases h6 y hy h0 e with hk | hk | ⟨hk, -⟩ <;> (rw [hk] at hzy; exact absurd hzy (by decide))
  refine ⟨fun b hb hk j => ?_, fun y hy hk f hf hfk j hj => ?_, fun y hy hk => ?_, fun y hy => ?_⟩
  · by_cases h0 : b ∈ sL S0
    · rw [(h4 b h0).2.2.2.2.2.2]; exact H2.1 b h0 ((h4 b h0).2.1.symm.trans hk) j
    · by_cases e : b = z
      · rw [e, h3] at hk
        rw [hk] at hK
        exact absurd hK (by decide)
      · rcases h6 b hb h0 e with hk2 | hk2 | ⟨-, hm⟩
        · rw [hk2] at hk; cases hk
        · rw [hk2] at hk; cases hk
        · exact hm j
  · by_cases e : y = z
    · rw [e, h3] at hk
      obtain ⟨-, b, b1, b2, b3, b4, b5⟩ := hz.2.2.1 hk
      rw [e, b1] at hf
      have eb := Option.some.inj hf
      rw [← eb, (h4 b b2).2.2.1] at hj
      rw [← eb, (h4 b b2).2.2.2.2.2.2]
      exact b5 j hj
    · have hy0 := old y hy e (by rw [hk]; decide)
      have hk0 : sK S0 y = 3 := (h4 y hy0).2.1.symm.trans hk
      obtain ⟨b, b1, b2, b3, b4⟩ := (H y ⟨hy0, by rw [hk0]; decide⟩).2.2.2.2.2.1 hk0
      rw [(h4 y hy0).2.2.2.1, b1] at hf
      have eb := Option.some.inj hf
      rw [← eb, (h4 b b2).2.2.1] at hj
      rw [← eb, (h4 b b2).2.2.2.2.2.2]
      exact H2.2.1 y hy0 hk0 b b1 b3 j hj
  · by_cases e : y = z
    · rw [e, h3] at hk
      rw [e]; exact (hz.2.2.1 hk).1
    · have hy0 := old y hy e (by rw [hk]; decide)
      rw [(h4 y hy0).2.2.2.2.2.1]; exact H2.2.2.1 y hy0 ((h4 y hy0).2.1.symm.trans hk)
  · by_cases e : y = z
    · rw [e]; exact ⟨0, 0, h7, h8, by decide, by decide, fun _ => by decide⟩
    · have hy0 := old y hy.1 e hy.2
      rw [(h4 y hy0).2.2.2.2.2.1]; exact H2.2.2.2 y ⟨hy0, by rw [← (h4 y hy0).2.1]; exact hy.2⟩
theorem Nw.add {Q : Int32 → Sh → SCTy} (hK : isZ K) (H : XI S0 rk q ci0 ai0 n m pu) (h : Nw S0 z K sh ci0 ai0 ci ai) (hn : n < 24) (ht : t ∈ sL S0 ∧ sK S0 t = 5) (h5 : F5 sh z t) (hz : Wz S0 sh z K ai0 ci)
    (hQ : ∀ sh' rk' ci' ai', XI sh' rk' q ci' ai' (n + 1) m pu → Q (nI n) sh' ci' ai' al) : (q ∈ sL sh ∧ sK sh q = 10) ∧ P_X11_addList sh ci ai al q z Q := by
  have hw := Nw.wf H.wf h H.rank hn ht h5 hz
  have hc := Nw.cin hK H.wf H.num h hz
  obtain ⟨h1, h2, h3, h4, h6, h7⟩ := h
  obtain ⟨o1, o2, o3, o4, o5, o6, o7⟩ := h4 q H.own.1
  have own : q ∈ sL sh ∧ sK sh q = 10 := ⟨o1, o2.trans H.own.2⟩
  have hzl : LZ sh z := ⟨h2, by rw [h3]; exact hK⟩
  obtain ⟨p, p1, p2, p3, p4, p5⟩ := H.pile
  obtain ⟨q1, q2, q3, q4, q5, -⟩ := h4 p p2
  refine ⟨own, own, p, by rw [o4]; exact p1, ⟨q1, q2.trans p3⟩, fun hle => ?_, fun _ => ⟨hzl, ?_, ?_⟩⟩
  · rw [q3, p4, o6, H.made] at hle
    exact absurd hle (nI_ge hn (by decide))
  · rw [q3, p4, o6, H.made]; exact vp_in_nI hn (by decide)
  rintro _ rfl
  refine ⟨own, ?_⟩
  have e4 : ci q 4 = nI n := by rw [o6]; exact H.made
  rw [e4, nI_clamp (by omega), nIs]
  refine hQ _ (va_up rk z n) _ _ ⟨hw, hc.obj own.2, own, ?_, ?_, ?_, ?_, ?_, by omega, H.m100, ?_, ?_, ?_⟩
  · obtain ⟨a, a1, a2, a3⟩ := H.met
    exact ⟨a, (congrFun o4 0).trans a1, (h4 a a2).1, (h4 a a2).2.1.trans a3⟩
  · refine ⟨p, (congrFun o4 1).trans p1, q1, q2.trans p3, q3.trans p4, fun i hi => ?_⟩
    show ∃ w, va_up (sQ sh) p (va_up (sQ sh p) n (some z)) p i = some w ∧ LZ sh w
    rw [va_self]
    by_cases e : i = n
    · rw [e, va_self]; exact ⟨z, rfl, hzl⟩
    · obtain ⟨w, w1, w2⟩ := p5 i (by omega)
      rw [va_up_ne _ _ e, q5]
      exact ⟨w, w1, (h4 w w2.1).1, by rw [(h4 w w2.1).2.1]; exact w2.2⟩
  · obtain ⟨a, a1, a2, a3, a4⟩ := H.row
    exact ⟨a, (congrFun o4 2).trans a1, (h4 a a2).1, (h4 a a2).2.1.trans a3, (h4 a a2).2.2.1.trans a4⟩
  · obtain ⟨a, a1, a2, a3, a4, a5⟩ := H.fate
    exact ⟨a, (congrFun o4 3).trans a1, (h4 a a2).1, (h4 a a2).2.1.trans a3, (h4 a a2).2.2.1.trans a4, fun j hj => by rw [(h4 a a2).2.2.2.2.2.2]; exact a5 j hj⟩
  · intro y hy
    by_cases e : y = z
    · rw [e, va_self]; exact Nat.lt_succ_self _
    · rw [va_up_ne _ _ e]
      have hy1 : y ∈ sL sh := hy.1
      have hy2 : isZ (sK sh y) := hy.2
      have hy0 : y ∈ sL S0 := by
        by_cases h0 : y ∈ sL S0
        · exact h0
        · rcases h6 y hy1 h0 e with hk | hk | ⟨hk, -⟩ <;> (rw [hk] at hy2; exact absurd hy2 (by decide))
      exact Nat.lt_succ_of_lt (H.rank y ⟨hy0, by rw [← (h4 y hy0).2.1]; exact hy2⟩)
  · exact up_same
  · rw [up2 (fun e => absurd e.2 (by decide)), o6]; exact H.long
  · rw [up2 (fun e => absurd e.2 (by decide)), o6]; exact H.purse
end XN
end H56
section H57
abbrev NK (S0 : Sh) (z K t : Nat) (ci0 ai0 : Nat → Nat → Int32) (Q : Sh → SCTy) : Prop := ∀ sh' ci' ai' al', Nw S0 z K sh' ci0 ai0 ci' ai' → F5 sh' z t → Wz S0 sh' z K ai0 ci' → Q sh' ci' ai' al'
abbrev KM (q n m : Nat) (pu : Int32) (Q : Int32 → Sh → SCTy) : Prop := ∀ sh' rk' ci' ai' al', XI sh' rk' q ci' ai' (n + 1) m pu → Q (nI n) sh' ci' ai' al'
section XM
variable {S0 sh : Sh} {rk : Nat → Nat} {ci0 ai0 ci ai ai' : Nat → Nat → Int32} {al : Nat → Nat → Int64} {q z K n m t w w2 : Nat} {pu x p0 p1 p2 p3 : Int32} {y1 y2 : Int64} {Q : Sh → SCTy} {X : String → Prop}
theorem Wz.a {r5 : Option Nat} (hK : K = 0 ∨ K = 1 ∨ K = 2 ∨ K = 4 ∨ K = 7) (e5 : sR sh z 5 = r5) (h5 : ∀ y, r5 = some y → LZ S0 y) (hr5 : K ≠ 0 → ∃ y, r5 = some y) (h6 : (K = 1 ∨ K = 4) → ∀ y, sR sh z 6 = some y → LZ S0 y) : Wz S0 sh z K ai0 ci := by
  refine ⟨fun k hk y hy => ?_, fun h0 _ => ?_, fun e => by omega, fun e => by omega, fun e => by omega, fun e => by omega⟩
  · rcases hk with ⟨rfl, -⟩ | ⟨rfl, h⟩
    · exact h5 y (e5 ▸ hy)
    · exact h6 h y hy
  · rw [e5]; exact hr5 h0
theorem Wz.b (hK : K = 6 ∨ K = 8 ∨ K = 9) (e5 : sR sh z 5 = some w) (h5 : LZ S0 w) (h6 : K = 6 → ∀ b, sR sh z 6 = some b → b ∈ sL sh ∧ sK sh b = 20 ∧ sN sh b ≤ 400) (h8 : K = 8 → ∃ b, sR sh z 6 = some b ∧ b ∈ sL sh ∧ sK sh b = 20 ∧ sN sh b ≤ 400) (h9 : K = 9 → ∃ b, sR sh z 8 = some b ∧ b ∈ sL sh ∧ sK sh b = 20 ∧ sN sh b ≤ 400) : Wz S0 sh z K ai0 ci := by
  refine ⟨fun k hk y hy => ?_, fun _ _ => ⟨w, e5⟩, fun e => ?_, h6, h8, h9⟩
  · rcases hk with ⟨rfl, -⟩ | ⟨rfl, h⟩
    · rw [e5] at hy; cases hy; exact h5
    · clear h6 h8 h9 e5 hy; omega
  · clear h6 h8 h9 e5; omega
theorem sR_same {k : Nat} {r : Option Nat} : sR (shR sh z k r) z k = r := by rw [sR_z, if_pos rfl]
theorem sR_56 {r r6 : Option Nat} : sR (shR (shR sh z 5 r) z 6 r6) z 5 = r := by rw [sR_z, if_neg (by decide), sR_same]
theorem n400 : (400 : Int32).toNatClampNeg ≤ 400 := by decide
theorem n0 : (0 : Int32).toNatClampNeg ≤ 400 := by decide
theorem ok_X0 (h : Nw S0 z 0 sh ci0 ai0 ci ai) (hw : LZ S0 w) (hQ : NK S0 z 0 t ci0 ai0 Q) : P_X0_init sh ci ai al z t w p0 y1 y2 Q := by
  refine ⟨⟨h.2.1, h.2.2.1⟩, ok_own (by decide) n400 h (fun sh7 ai7 al7 N F => ⟨⟨N.2.1, N.2.2.1⟩, ?_⟩)⟩
  rintro _ rfl
  refine ⟨⟨N.2.1, N.2.2.1⟩, ?_⟩
  rintro _ rfl
  refine ⟨⟨N.2.1, N.2.2.1⟩, ?_⟩
  rintro _ rfl
  exact hQ _ _ _ _ (N.R.F (by decide)) (F.R (by decide)) (Wz.a (by decide) (sR_same (sh := sh7)) (fun y e => Option.some.inj e ▸ hw) (fun e => absurd rfl e) (fun e => absurd e (by decide)))
theorem ok_X0N (h : Nw S0 z 0 sh ci0 ai0 ci ai) (hQ : NK S0 z 0 t ci0 ai0 Q) : P_X0_initN sh ci ai al z t p0 y1 y2 Q := by
  refine ⟨⟨h.2.1, h.2.2.1⟩, ok_own (by decide) n400 h (fun sh7 ai7 al7 N F => ⟨⟨N.2.1, N.2.2.1⟩, ?_⟩)⟩
  rintro _ rfl
  refine ⟨⟨N.2.1, N.2.2.1⟩, ?_⟩
  rintro _ rfl
  refine ⟨⟨N.2.1, N.2.2.1⟩, ?_⟩
  rintro _ rfl
  exact hQ _ _ _ _ (N.R.F (by decide)) (F.R (by decide)) (Wz.a (by decide) (sR_same (sh := sh7)) (fun y e => nomatch e) (fun e => absurd rfl e) (fun e => absurd e (by decide)))
theorem ok_X1 (h : Nw S0 z 1 sh ci0 ai0 ci ai) (hw : LZ S0 w) (hw2 : LZ S0 w2) (hQ : NK S0 z 1 t ci0 ai0 Q) : P_X1_init sh ci ai al z t w w2 p0 y1 Q := by
  refine ⟨⟨h.2.1, h.2.2.1⟩, ok_own (by decide) n400 h (fun sh7 ai7 al7 N F => ⟨⟨N.2.1, N.2.2.1⟩, ?_⟩)⟩
  rintro _ rfl
  refine ⟨⟨N.2.1, N.2.2.1⟩, ?_⟩
  rintro _ rfl
  refine ⟨⟨N.2.1, N.2.2.1⟩, ?_⟩
  rintro _ rfl
  exact hQ _ _ _ _ (N.R.R.F (by decide)) ((F.R (by decide)).R (by decide)) (Wz.a (by decide) (sR_56 (sh := sh7)) (fun y e => Option.some.inj e ▸ hw) (fun _ => ⟨_, rfl⟩) (fun _ y e => Option.some.inj ((sR_same (sh := shR sh7 z 5 (some w)) (z := z) (k := 6) (r := some w2)).symm.trans e) ▸ hw2))
theorem ok_X1N (h : Nw S0 z 1 sh ci0 ai0 ci ai) (hw : LZ S0 w) (hQ : NK S0 z 1 t ci0 ai0 Q) : P_X1_initN sh ci ai al z t w p0 y1 Q := by
  refine ⟨⟨h.2.1, h.2.2.1⟩, ok_own (by decide) n400 h (fun sh7 ai7 al7 N F => ⟨⟨N.2.1, N.2.2.1⟩, ?_⟩)⟩
  rintro _ rfl
  refine ⟨⟨N.2.1, N.2.2.1⟩, ?_⟩
  rintro _ rfl
  refine ⟨⟨N.2.1, N.2.2.1⟩, ?_⟩
  rintro _ rfl
  exact hQ _ _ _ _ (N.R.R.F (by decide)) ((F.R (by decide)).R (by decide)) (Wz.a (by decide) (sR_56 (sh := sh7)) (fun y e => Option.some.inj e ▸ hw) (fun _ => ⟨_, rfl⟩) (fun _ y e => nomatch ((sR_same (sh := shR sh7 z 5 (some w)) (z := z) (k := 6) (r := none)).symm.trans e)))
theorem ok_X2 (h : Nw S0 z 2 sh ci0 ai0 ci ai) (hw : LZ S0 w) (hQ : NK S0 z 2 t ci0 ai0 Q) : P_X2_init sh ci ai al z t w p0 p1 y1 Q := by
  refine ⟨⟨h.2.1, h.2.2.1⟩, ok_own (by decide) n0 h (fun sh7 ai7 al7 N F => ⟨⟨N.2.1, N.2.2.1⟩, ?_⟩)⟩
  rintro _ rfl
  refine ⟨⟨N.2.1, N.2.2.1⟩, ?_⟩
  rintro _ rfl
  exact hQ _ _ _ _ ((N.R.F (by decide)).F (by decide)) (F.R (by decide)) (Wz.a (by decide) (sR_same (sh := sh7)) (fun y e => Option.some.inj e ▸ hw) (fun _ => ⟨_, rfl⟩) (fun e => absurd e (by decide)))
theorem ok_X4 (h : Nw S0 z 4 sh ci0 ai0 ci ai) (hw : LZ S0 w) (hw2 : LZ S0 w2) (hQ : NK S0 z 4 t ci0 ai0 Q) : P_X4_init sh ci ai al z t w w2 Q := by
  refine ⟨⟨h.2.1, h.2.2.1⟩, ok_own (by decide) n0 h (fun sh7 ai7 al7 N F => ⟨⟨N.2.1, N.2.2.1⟩, ?_⟩)⟩
  rintro _ rfl
  refine ⟨⟨N.2.1, N.2.2.1⟩, ?_⟩
  rintro _ rfl
  exact hQ _ _ _ _ N.R.R ((F.R (by decide)).R (by decide)) (Wz.a (by decide) (sR_56 (sh := sh7)) (fun y e => Option.some.inj e ▸ hw) (fun _ => ⟨_, rfl⟩) (fun _ y e => Option.some.inj ((sR_same (sh := shR sh7 z 5 (some w)) (z := z) (k := 6) (r := some w2)).symm.trans e) ▸ hw2))
theorem ok_X4N (h : Nw S0 z 4 sh ci0 ai0 ci ai) (hw : LZ S0 w) (hQ : NK S0 z 4 t ci0 ai0 Q) : P_X4_initN sh ci ai al z t w Q := by
  refine ⟨⟨h.2.1, h.2.2.1⟩, ok_own (by decide) n0 h (fun sh7 ai7 al7 N F => ⟨⟨N.2.1, N.2.2.1⟩, ?_⟩)⟩
  rintro _ rfl
  refine ⟨⟨N.2.1, N.2.2.1⟩, ?_⟩
  rintro _ rfl
  exact hQ _ _ _ _ N.R.R ((F.R (by decide)).R (by decide)) (Wz.a (by decide) (sR_56 (sh := sh7)) (fun y e => Option.some.inj e ▸ hw) (fun _ => ⟨_, rfl⟩) (fun _ y e => nomatch ((sR_same (sh := shR sh7 z 5 (some w)) (z := z) (k := 6) (r := none)).symm.trans e)))
theorem ok_X8 (h : Nw S0 z 7 sh ci0 ai0 ci ai) (hw : LZ S0 w) (hQ : NK S0 z 7 t ci0 ai0 Q) : P_X8_init sh ci ai al z t w p0 p1 y1 Q := by
  refine ⟨⟨h.2.1, h.2.2.1⟩, ok_own (by decide) n0 h (fun sh7 ai7 al7 N F => ⟨⟨N.2.1, N.2.2.1⟩, ?_⟩)⟩
  rintro _ rfl
  refine ⟨⟨N.2.1, N.2.2.1⟩, ?_⟩
  rintro _ rfl
  exact hQ _ _ _ _ ((N.R.F (by decide)).F (by decide)) (F.R (by decide)) (Wz.a (by decide) (sR_same (sh := sh7)) (fun y e => Option.some.inj e ▸ hw) (fun _ => ⟨_, rfl⟩) (fun e => absurd e (by decide)))
/-- a row of ints of its own -/
theorem Nw.row {c : Nat} {cA : ClassId} (h : Nw S0 z K sh ci0 ai0 ci ai) (hc : c ∉ sL sh) : Nw S0 z K (shN sh c 20 (400 : Int32).toNatClampNeg cA) ci0 ai0 ci (va_up ai c (fun _ => 0)) := h.N hc (fun d hd => va_up_ne _ _ hd) (Or.inl rfl)
theorem row20 {c : Nat} {cA : ClassId} : c ∈ sL (shN sh c 20 (400 : Int32).toNatClampNeg cA) ∧ sK (shN sh c 20 (400 : Int32).toNatClampNeg cA) c = 20 ∧ sN (shN sh c 20 (400 : Int32).toNatClampNeg cA) c ≤ 400 := ⟨List.mem_append_right _ (List.mem_singleton.mpr rfl), va_self, le_eq va_self n400⟩
theorem ok_X7 (h : Nw S0 z 6 sh ci0 ai0 ci ai) (hw : LZ S0 w) (hQ : NK S0 z 6 t ci0 ai0 Q) : P_X7_init sh ci ai al z t w p0 Q := by
  refine ⟨⟨h.2.1, h.2.2.1⟩, ok_own (by decide) n0 h (fun sh7 ai7 al7 N F => ⟨⟨N.2.1, N.2.2.1⟩, ?_⟩)⟩
  rintro _ rfl
  refine ⟨fun _ => ⟨⟨N.2.1, N.2.2.1⟩, ?_⟩, fun _ => ?_⟩
  · rintro _ rfl
    exact hQ _ _ _ _ N.R.R ((F.R (by decide)).R (by decide)) (Wz.b (by decide) (sR_56 (sh := sh7)) hw (fun _ y e => nomatch ((sR_same (sh := shR sh7 z 5 (some w)) (z := z) (k := 6) (r := none)).symm.trans e)) (fun e => absurd e (by decide)) (fun e => absurd e (by decide)))
  · rintro c cA _ hc rfl
    have N2 := Nw.row (cA := cA) (N.R (k := 5) (r := some w)) hc
    have F2 := F5.N (kk := 20) (ln := (400 : Int32).toNatClampNeg) (cA := cA) (F.R (k := 5) (r := some w) (by decide)) hc
    refine ⟨⟨N2.2.1, N2.2.2.1⟩, ?_⟩
    rintro _ rfl
    refine hQ _ _ _ _ N2.R (F2.R (by decide)) (Wz.b (w := w) (by decide) ?_ hw (fun _ y e => ?_) (fun e => absurd e (by decide)) (fun e => absurd e (by decide)))
    · rw [sR_z, if_neg (by decide)]; exact sR_same (sh := sh7)
    · rw [sR_same] at e; cases e; exact row20 (sh := shR sh7 z 5 (some w)) (cA := cA)
theorem ok_X9 (h : Nw S0 z 8 sh ci0 ai0 ci ai) (hw : LZ S0 w) (hQ : NK S0 z 8 t ci0 ai0 Q) : P_X9_init sh ci ai al z t w Q := by
  refine ⟨⟨h.2.1, h.2.2.1⟩, ok_own (by decide) n400 h (fun sh7 ai7 al7 N F => ⟨⟨N.2.1, N.2.2.1⟩, ?_⟩)⟩
  rintro _ rfl
  rintro c cA _ hc rfl
  have N2 := Nw.row (cA := cA) (N.R (k := 5) (r := some w)) hc
  have F2 := F5.N (kk := 20) (ln := (400 : Int32).toNatClampNeg) (cA := cA) (F.R (k := 5) (r := some w) (by decide)) hc
  refine ⟨⟨N2.2.1, N2.2.2.1⟩, ?_⟩
  rintro _ rfl
  refine hQ _ _ _ _ N2.R (F2.R (by decide)) (Wz.b (w := w) (by decide) ?_ hw (fun e => absurd e (by decide)) (fun _ => ⟨c, sR_same, row20 (sh := shR sh7 z 5 (some w)) (cA := cA)⟩) (fun e => absurd e (by decide)))
  rw [sR_z, if_neg (by decide)]; exact sR_same (sh := sh7)
theorem ok_X10 (h : Nw S0 z 9 sh ci0 ai0 ci ai) (hw : LZ S0 w) (hQ : NK S0 z 9 t ci0 ai0 Q) : P_X10_init sh ci ai al z t w p0 y1 Q := by
  refine ⟨⟨h.2.1, h.2.2.1⟩, ok_own (by decide) n0 h (fun sh7 ai7 al7 N F => ⟨⟨N.2.1, N.2.2.1⟩, ?_⟩)⟩
  rintro _ rfl
  refine ⟨⟨N.2.1, N.2.2.1⟩, ?_⟩
  rintro _ rfl
  rintro c cA _ hc rfl
  have N2 := Nw.row (cA := cA) ((N.R (k := 5) (r := some w)).J (k := 7) (y := y1)) hc
  have F2 : F5 (shN (shJ (shR sh7 z 5 (some w)) z 7 y1) c 20 (400 : Int32).toNatClampNeg cA) z t := F5.N (sh := shR sh7 z 5 (some w)) (cA := cA) (F.R (k := 5) (r := some w) (by decide)) hc
  refine ⟨⟨N2.2.1, N2.2.2.1⟩, ?_⟩
  rintro _ rfl
  refine hQ _ _ _ _ (N2.R.F (by decide)) (F2.R (by decide)) (Wz.b (w := w) (by decide) ?_ hw (fun e => absurd e (by decide)) (fun e => absurd e (by decide)) (fun _ => ⟨c, sR_same, row20 (sh := shJ (shR sh7 z 5 (some w)) z 7 y1) (cA := cA)⟩))
  rw [sR_z, if_neg (by decide)]; exact sR_same (sh := sh7)
theorem ok_X3 {b g : Nat} (h : Nw S0 z 3 sh ci0 ai0 ci ai) (hb : b ∈ sL S0 ∧ sK S0 b = 22 ∧ sN S0 b ≤ 400) (hg : g ∈ sL S0 ∧ sK S0 g = 21 ∧ sN S0 g ≤ 400) (hg2 : ∀ j, j < sN S0 g → ¬ ai0 g j = 0) (hx : r8 p0) (hQ : NK S0 z 3 t ci0 ai0 Q) : P_X3_init sh ci ai al z t b g p0 Q := by
  obtain ⟨b1, b2, b3, -⟩ := h.2.2.2.1 b hb.1
  refine ⟨⟨h.2.1, h.2.2.1⟩, ok_init5 (by decide) h b1 (b2.trans hb.2.1) (le_eq b3 hb.2.2) (fun sh7 ai7 N F _ => ⟨⟨N.2.1, N.2.2.1⟩, ?_⟩)⟩
  rintro _ rfl
  refine ⟨⟨N.2.1, N.2.2.1⟩, hQ _ _ _ _ (N.R.F (by decide)) (F.R (by decide)) ⟨fun k hk y hy => ?_, fun _ e => absurd rfl e, fun _ => ⟨?_, g, sR_same, hg.1, hg.2.1, hg.2.2, hg2⟩, fun e => absurd e (by decide), fun e => absurd e (by decide), fun e => absurd e (by decide)⟩⟩
  · rcases hk with ⟨-, h⟩ | ⟨-, h⟩ <;> exact absurd h (by decide)
  · rw [up_same]; exact hx
end XM
end H57
section H58
section XK
variable {sh : Sh} {rk : Nat → Nat} {ci ai ai' : Nat → Nat → Int32} {al : Nat → Nat → Int64} {q n m K : Nat} {pu p0 p1 p2 hi : Int32} {y1 y2 : Int64} {X : String → Prop}
theorem ok_checkOp {P : Prop} (a : inO p0 8 → P) (b : ¬ inO p0 8 → X "java/lang/IllegalArgumentException") : P_X11_checkOp p0 P X := ⟨fun h => b (fun c => c.1 h), fun h => ⟨fun h2 => a ⟨h, h2⟩, fun h2 => b (fun c => h2 c.2)⟩⟩
theorem ok_checkCond {P : Prop} (a : inO p0 3 → P) (b : ¬ inO p0 3 → X "java/lang/IllegalArgumentException") : P_X11_checkCond p0 P X := ⟨fun h => b (fun c => c.1 h), fun h => ⟨fun h2 => a ⟨h, h2⟩, fun h2 => b (fun c => h2 c.2)⟩⟩
theorem ok_checkLength {P : Prop} (a : inO p0 400 → P) (b : ¬ inO p0 400 → X "java/lang/IllegalArgumentException") : P_X11_checkLength p0 P X := ⟨fun h => b (fun c => c.1 h), fun h => ⟨fun h2 => a ⟨h, h2⟩, fun h2 => b (fun c => h2 c.2)⟩⟩
theorem ok_checkRoom {P : Prop} (H : XI sh rk q ci ai n m pu) (a : n < 24 → P) (b : ¬ n < 24 → X "java/lang/UnsupportedOperationException") : P_X11_checkRoom sh ci ai al q P X := by
  have h24 := H.n24
  refine ⟨H.own, fun h => a ?_, fun h => b (fun hn => h ?_)⟩
  · rcases Nat.lt_or_ge n 24 with e | e
    · exact e
    · rw [H.made, show n = 24 by omega] at h; exact absurd h (by decide)
  · rw [H.made]; exact Int32.not_le.mp (nI_ge (a := n) (b := 24) hn (by decide))
theorem ok_fresh {P : Nat → Sh → Nat → Prop} (H : XI sh rk q ci ai n m pu) (hP : ∀ z t, z ∉ sL sh → (t ∈ sL sh ∧ sK sh t = 5) → Nw sh z K (shO sh z K) ci ai (va_up ci z (fun _ => 0)) ai → P z (shO sh z K) t) : ∀ (z : Nat) (sh5 : Sh), z ∉ sL sh → sh5 = shO sh z K → (q ∈ sL sh5 ∧ sK sh5 q = 10) ∧ ∃ t : Nat, sR sh5 q 0 = some t ∧ (z ∈ sL sh5 ∧ sK sh5 z = K) ∧ P z sh5 t := by
  rintro z _ hz rfl
  have N : Nw sh z K (shO sh z K) ci ai (va_up ci z (fun _ => 0)) ai := Nw.O hz
  obtain ⟨t, t1, t2⟩ := H.met
  obtain ⟨o1, o2, o3, o4, -⟩ := N.2.2.2.1 q H.own.1
  exact ⟨⟨o1, o2.trans H.own.2⟩, t, (congrFun o4 0).trans t1, ⟨N.2.1, N.2.2.1⟩, hP z t hz t2 N⟩
theorem mk_iterate {Q : Int32 → Sh → SCTy} (H : XI sh rk q ci ai n m pu) (hQ : inO p0 8 → n < 24 → KM q n m pu Q) (hA : ¬ inO p0 8 → X "java/lang/IllegalArgumentException") (hU : inO p0 8 → ¬ n < 24 → X "java/lang/UnsupportedOperationException") : P_X11_iterate sh ci ai al q p0 y1 y2 Q X := by
  refine ⟨H.own, ok_checkOp (fun a3 => ok_checkRoom H (fun a4 => ok_fresh H (fun z t hz ht N => ?_)) (hU a3)) (hA)⟩
  exact ok_X0N N (fun sh' ci' ai' al' N' F' W' => Nw.add (by decide) H N' a4 ht F' W' (fun sh2 rk2 ci2 ai2 h2 => hQ a3 a4 _ _ _ _ _ h2))
theorem mk_map {Q : Int32 → Sh → SCTy} (H : XI sh rk q ci ai n m pu) (hQ : inL p0 n → inO p1 8 → n < 24 → KM q n m pu Q) (hI : ¬ inL p0 n → X "java/lang/IndexOutOfBoundsException") (hA : inL p0 n → ¬ inO p1 8 → X "java/lang/IllegalArgumentException") (hU : inL p0 n → inO p1 8 → ¬ n < 24 → X "java/lang/UnsupportedOperationException") : P_X11_map sh ci ai al q p0 p1 y1 Q X := by
  refine ⟨H.own, ok_listOf H (fun a1 w hw => ok_checkOp (fun a3 => ok_checkRoom H (fun a4 => ok_fresh H (fun z t hz ht N => ?_)) (hU a1 a3)) (hA a1)) hI⟩
  exact ok_X1N N hw (fun sh' ci' ai' al' N' F' W' => Nw.add (by decide) H N' a4 ht F' W' (fun sh2 rk2 ci2 ai2 h2 => hQ a1 a3 a4 _ _ _ _ _ h2))
theorem mk_both {Q : Int32 → Sh → SCTy} (H : XI sh rk q ci ai n m pu) (hQ : inL p0 n → inL p1 n → inO p2 8 → n < 24 → KM q n m pu Q) (hI : ¬ (inL p0 n ∧ inL p1 n) → X "java/lang/IndexOutOfBoundsException") (hA : inL p0 n → inL p1 n → ¬ inO p2 8 → X "java/lang/IllegalArgumentException") (hU : inL p0 n → inL p1 n → inO p2 8 → ¬ n < 24 → X "java/lang/UnsupportedOperationException") : P_X11_both sh ci ai al q p0 p1 p2 Q X := by
  refine ⟨H.own, ok_listOf H (fun a1 w hw => ok_listOf H (fun a2 w2 hw2 => ok_checkOp (fun a3 => ok_checkRoom H (fun a4 => ok_fresh H (fun z t hz ht N => ?_)) (hU a1 a2 a3)) (hA a1 a2)) (fun h => hI (fun c => h c.2))) (fun h => hI (fun c => h c.1))⟩
  exact ok_X1 N hw hw2 (fun sh' ci' ai' al' N' F' W' => Nw.add (by decide) H N' a4 ht F' W' (fun sh2 rk2 ci2 ai2 h2 => hQ a1 a2 a3 a4 _ _ _ _ _ h2))
theorem mk_scan {Q : Int32 → Sh → SCTy} (H : XI sh rk q ci ai n m pu) (hQ : inL p0 n → inO p1 8 → n < 24 → KM q n m pu Q) (hI : ¬ inL p0 n → X "java/lang/IndexOutOfBoundsException") (hA : inL p0 n → ¬ inO p1 8 → X "java/lang/IllegalArgumentException") (hU : inL p0 n → inO p1 8 → ¬ n < 24 → X "java/lang/UnsupportedOperationException") : P_X11_scan sh ci ai al q p0 p1 y1 Q X := by
  refine ⟨H.own, ok_listOf H (fun a1 w hw => ok_checkOp (fun a3 => ok_checkRoom H (fun a4 => ok_fresh H (fun z t hz ht N => ?_)) (hU a1 a3)) (hA a1)) hI⟩
  exact ok_X0 N hw (fun sh' ci' ai' al' N' F' W' => Nw.add (by decide) H N' a4 ht F' W' (fun sh2 rk2 ci2 ai2 h2 => hQ a1 a3 a4 _ _ _ _ _ h2))
theorem mk_take {Q : Int32 → Sh → SCTy} (H : XI sh rk q ci ai n m pu) (hQ : inL p0 n → inO p1 400 → n < 24 → KM q n m pu Q) (hI : ¬ inL p0 n → X "java/lang/IndexOutOfBoundsException") (hA : inL p0 n → ¬ inO p1 400 → X "java/lang/IllegalArgumentException") (hU : inL p0 n → inO p1 400 → ¬ n < 24 → X "java/lang/UnsupportedOperationException") : P_X11_take sh ci ai al q p0 p1 Q X := by
  refine ⟨H.own, ok_listOf H (fun a1 w hw => ok_checkLength (fun a3 => ok_checkRoom H (fun a4 => ok_fresh H (fun z t hz ht N => ?_)) (hU a1 a3)) (hA a1)) hI⟩
  exact ok_X2 N hw (fun sh' ci' ai' al' N' F' W' => Nw.add (by decide) H N' a4 ht F' W' (fun sh2 rk2 ci2 ai2 h2 => hQ a1 a3 a4 _ _ _ _ _ h2))
theorem mk_drop {Q : Int32 → Sh → SCTy} (H : XI sh rk q ci ai n m pu) (hQ : inL p0 n → inO p1 400 → n < 24 → KM q n m pu Q) (hI : ¬ inL p0 n → X "java/lang/IndexOutOfBoundsException") (hA : inL p0 n → ¬ inO p1 400 → X "java/lang/IllegalArgumentException") (hU : inL p0 n → inO p1 400 → ¬ n < 24 → X "java/lang/UnsupportedOperationException") : P_X11_drop sh ci ai al q p0 p1 Q X := by
  refine ⟨H.own, ok_listOf H (fun a1 w hw => ok_checkLength (fun a3 => ok_checkRoom H (fun a4 => ok_fresh H (fun z t hz ht N => ?_)) (hU a1 a3)) (hA a1)) hI⟩
  exact ok_X8 N hw (fun sh' ci' ai' al' N' F' W' => Nw.add (by decide) H N' a4 ht F' W' (fun sh2 rk2 ci2 ai2 h2 => hQ a1 a3 a4 _ _ _ _ _ h2))
theorem mk_keep {Q : Int32 → Sh → SCTy} (H : XI sh rk q ci ai n m pu) (hQ : inL p0 n → inO p1 3 → n < 24 → KM q n m pu Q) (hI : ¬ inL p0 n → X "java/lang/IndexOutOfBoundsException") (hA : inL p0 n → ¬ inO p1 3 → X "java/lang/IllegalArgumentException") (hU : inL p0 n → inO p1 3 → ¬ n < 24 → X "java/lang/UnsupportedOperationException") : P_X11_keep sh ci ai al q p0 p1 y1 Q X := by
  refine ⟨H.own, ok_listOf H (fun a1 w hw => ok_checkCond (fun a3 => ok_checkRoom H (fun a4 => ok_fresh H (fun z t hz ht N => ?_)) (hU a1 a3)) (hA a1)) hI⟩
  exact ok_X10 N hw (fun sh' ci' ai' al' N' F' W' => Nw.add (by decide) H N' a4 ht F' W' (fun sh2 rk2 ci2 ai2 h2 => hQ a1 a3 a4 _ _ _ _ _ h2))
theorem mk_during {Q : Int32 → Sh → SCTy} (H : XI sh rk q ci ai n m pu) (hQ : inL p0 n → inO p1 3 → n < 24 → KM q n m pu Q) (hI : ¬ inL p0 n → X "java/lang/IndexOutOfBoundsException") (hA : inL p0 n → ¬ inO p1 3 → X "java/lang/IllegalArgumentException") (hU : inL p0 n → inO p1 3 → ¬ n < 24 → X "java/lang/UnsupportedOperationException") : P_X11_during sh ci ai al q p0 p1 y1 Q X := by
  refine ⟨H.own, ok_listOf H (fun a1 w hw => ok_checkCond (fun a3 => ok_checkRoom H (fun a4 => ok_fresh H (fun z t hz ht N => ?_)) (hU a1 a3)) (hA a1)) hI⟩
  exact ok_X2 N hw (fun sh' ci' ai' al' N' F' W' => Nw.add (by decide) H N' a4 ht F' W' (fun sh2 rk2 ci2 ai2 h2 => hQ a1 a3 a4 _ _ _ _ _ h2))
theorem mk_after {Q : Int32 → Sh → SCTy} (H : XI sh rk q ci ai n m pu) (hQ : inL p0 n → inO p1 3 → n < 24 → KM q n m pu Q) (hI : ¬ inL p0 n → X "java/lang/IndexOutOfBoundsException") (hA : inL p0 n → ¬ inO p1 3 → X "java/lang/IllegalArgumentException") (hU : inL p0 n → inO p1 3 → ¬ n < 24 → X "java/lang/UnsupportedOperationException") : P_X11_after sh ci ai al q p0 p1 y1 Q X := by
  refine ⟨H.own, ok_listOf H (fun a1 w hw => ok_checkCond (fun a3 => ok_checkRoom H (fun a4 => ok_fresh H (fun z t hz ht N => ?_)) (hU a1 a3)) (hA a1)) hI⟩
  exact ok_X8 N hw (fun sh' ci' ai' al' N' F' W' => Nw.add (by decide) H N' a4 ht F' W' (fun sh2 rk2 ci2 ai2 h2 => hQ a1 a3 a4 _ _ _ _ _ h2))
theorem mk_join {Q : Int32 → Sh → SCTy} (H : XI sh rk q ci ai n m pu) (hQ : inL p0 n → inL p1 n → n < 24 → KM q n m pu Q) (hI : ¬ (inL p0 n ∧ inL p1 n) → X "java/lang/IndexOutOfBoundsException") (hU : inL p0 n → inL p1 n → ¬ n < 24 → X "java/lang/UnsupportedOperationException") : P_X11_join sh ci ai al q p0 p1 Q X := by
  refine ⟨H.own, ok_listOf H (fun a1 w hw => ok_listOf H (fun a2 w2 hw2 => ok_checkRoom H (fun a4 => ok_fresh H (fun z t hz ht N => ?_)) (hU a1 a2)) (fun h => hI (fun c => h c.2))) (fun h => hI (fun c => h c.1))⟩
  exact ok_X4 N hw hw2 (fun sh' ci' ai' al' N' F' W' => Nw.add (by decide) H N' a4 ht F' W' (fun sh2 rk2 ci2 ai2 h2 => hQ a1 a2 a4 _ _ _ _ _ h2))
theorem mk_other {Q : Int32 → Sh → SCTy} (H : XI sh rk q ci ai n m pu) (hQ : inL p0 n → inO p1 4 → n < 24 → KM q n m pu Q) (hI : ¬ inL p0 n → X "java/lang/IndexOutOfBoundsException") (hA : inL p0 n → ¬ inO p1 4 → X "java/lang/IllegalArgumentException") (hU : inL p0 n → inO p1 4 → ¬ n < 24 → X "java/lang/UnsupportedOperationException") : P_X11_other sh ci ai al q p0 p1 Q X := by
  refine ⟨H.own, ok_listOf H (fun a1 w hw => ⟨fun h => hA a1 (fun c => c.1 h), fun h3 => ⟨fun h4 => ok_checkRoom H (fun a4 => ?_) (hU a1 ⟨h3, h4⟩), fun h4 => hA a1 (fun c => h4 c.2)⟩⟩) hI⟩
  have hQ' := hQ a1 ⟨h3, h4⟩ a4
  refine ⟨H.own, fun _ => ok_fresh H (fun z t hz ht N => ?_), fun _ => ⟨fun _ => ok_fresh H (fun z t hz ht N => ?_), fun _ => ⟨fun _ => ok_fresh H (fun z t hz ht N => ?_), fun _ => ⟨fun _ => ok_fresh H (fun z t hz ht N => ?_), fun _ => ok_fresh H (fun z t hz ht N => ?_)⟩⟩⟩⟩
  · exact ok_X4N N hw (fun sh' ci' ai' al' N' F' W' => Nw.add (by decide) H N' a4 ht F' W' (fun sh2 rk2 ci2 ai2 h2 => hQ' _ _ _ _ _ h2))
  · exact ok_X7 N hw (fun sh' ci' ai' al' N' F' W' => Nw.add (by decide) H N' a4 ht F' W' (fun sh2 rk2 ci2 ai2 h2 => hQ' _ _ _ _ _ h2))
  · exact ok_X7 N hw (fun sh' ci' ai' al' N' F' W' => Nw.add (by decide) H N' a4 ht F' W' (fun sh2 rk2 ci2 ai2 h2 => hQ' _ _ _ _ _ h2))
  · exact ok_X10 N hw (fun sh' ci' ai' al' N' F' W' => Nw.add (by decide) H N' a4 ht F' W' (fun sh2 rk2 ci2 ai2 h2 => hQ' _ _ _ _ _ h2))
  · exact ok_X9 N hw (fun sh' ci' ai' al' N' F' W' => Nw.add (by decide) H N' a4 ht F' W' (fun sh2 rk2 ci2 ai2 h2 => hQ' _ _ _ _ _ h2))
end XK
end H58
section H59
section XG
variable {sh : Sh} {rk : Nat → Nat} {ci ai ai' : Nat → Nat → Int32} {al : Nat → Nat → Int64} {q n m b kk ln : Nat} {cA : ClassId} {pu p0 p1 x : Int32} {y1 y2 : Int64} {X : String → Prop}
theorem arr_new : b ∈ sL (shN sh b kk ln cA) ∧ sK (shN sh b kk ln cA) b = kk ∧ sN (shN sh b kk ln cA) b = ln := ⟨List.mem_append_right _ (List.mem_singleton.mpr rfl), va_self, va_self⟩
theorem arr_old {c : Nat} (hb : b ∉ sL sh) (hc : c ∈ sL sh) : c ∈ sL (shN sh b kk ln cA) ∧ sK (shN sh b kk ln cA) c = sK sh c ∧ sN (shN sh b kk ln cA) c = sN sh c ∧ sQ (shN sh b kk ln cA) c = sQ sh c := by
  have hne : c ≠ b := fun e => hb (e ▸ hc)
  exact ⟨List.mem_append_left _ hc, va_up_ne _ _ hne, va_up_ne _ _ hne, va_up_ne _ _ hne⟩
theorem arr_LZ {c : Nat} (hb : b ∉ sL sh) (hk : ¬ isZ kk) (hc : LZ (shN sh b kk ln cA) c) : LZ sh c := by
  obtain ⟨h1, h2⟩ := hc
  by_cases e : c = b
  · rw [e, arr_new.2.1] at h2; exact absurd h2 hk
  · have hc : c ∈ sL sh := by
      rcases List.mem_append.mp h1 with h | h
      · exact h
      · exact absurd (List.mem_singleton.mp h) e
    exact ⟨hc, by rw [(arr_old (kk := kk) (ln := ln) (cA := cA) hb hc).2.1] at h2; exact h2⟩
theorem LZ.N {c : Nat} (hb : b ∉ sL sh) (hc : LZ sh c) : LZ (shN sh b kk ln cA) c := ⟨(arr_old hb hc.1).1, by rw [(arr_old hb hc.1).2.1]; exact hc.2⟩
theorem Wf.N (H : Wf sh rk) (hb : b ∉ sL sh) (hk : ¬ isZ kk) : Wf (shN sh b kk ln cA) rk := by
  intro y hy
  have hy0 := arr_LZ hb hk hy
  rw [(arr_old (kk := kk) (ln := ln) (cA := cA) hb hy0.1).2.1]
  have lift : ∀ {c k9 : Nat}, c ∈ sL sh → sK sh c = k9 → c ∈ sL (shN sh b kk ln cA) ∧ sK (shN sh b kk ln cA) c = k9 := fun hc h9 => ⟨(arr_old hb hc).1, (arr_old hb hc).2.1.trans h9⟩
  have liftN : ∀ {c k9 : Nat}, c ∈ sL sh → sK sh c = k9 → sN sh c ≤ 400 → c ∈ sL (shN sh b kk ln cA) ∧ sK (shN sh b kk ln cA) c = k9 ∧ sN (shN sh b kk ln cA) c ≤ 400 := fun hc h9 hl => ⟨(arr_old hb hc).1, (arr_old hb hc).2.1.trans h9, le_eq (arr_old hb hc).2.2.1 hl⟩
  obtain ⟨⟨a, a1, a2, a3⟩, ⟨b1, c1, c2, c3, c4⟩, ⟨d, d1, d2, d3, d4⟩, w4, w5, w6, w7, w8, w9, w10⟩ := H y hy0
  refine ⟨⟨a, a1, lift a2 a3⟩, ⟨b1, c1, liftN c2 c3 c4⟩, ⟨d, d1, liftN d2 d3 d4⟩, fun k hk w hw => ?_, w5, fun e3 => ?_, fun e6 g hg => ?_, fun e8 => ?_, fun e9 => ?_, w10⟩
  · obtain ⟨f1, f2⟩ := w4 k hk w hw
    exact ⟨f1.N hb, f2⟩
  · obtain ⟨g, g1, g2, g3, g4⟩ := w6 e3
    exact ⟨g, g1, liftN g2 g3 g4⟩
  · obtain ⟨g2, g3, g4⟩ := w7 e6 g hg
    exact liftN g2 g3 g4
  · obtain ⟨g, g1, g2, g3, g4⟩ := w8 e8
    exact ⟨g, g1, liftN g2 g3 g4⟩
  · obtain ⟨g, g1, g2, g3, g4⟩ := w9 e9
    exact ⟨g, g1, liftN g2 g3 g4⟩
theorem CI.N (H : Wf sh rk) (h : CI sh ci ai) (hb : b ∉ sL sh) (hk : kk = 22 ∨ kk = 21) (hai : ∀ c, c ≠ b → ai' c = ai c) (hm : kk = 21 → ∀ j, m8 (ai' b j)) : CI (shN sh b kk ln cA) ci ai' := by
  have hz : ¬ isZ kk := by rcases hk with rfl | rfl <;> decide
  have oldz : ∀ {y : Nat}, y ∈ sL (shN sh b kk ln cA) → isZ (sK (shN sh b kk ln cA) y) → y ∈ sL sh ∧ sK (shN sh b kk ln cA) y = sK sh y := fun h1 h2 => ⟨(arr_LZ hb hz ⟨h1, h2⟩).1, (arr_old hb (arr_LZ hb hz ⟨h1, h2⟩).1).2.1⟩
  refine ⟨fun c hc hc2 j => ?_, fun y hy hy3 f hf hfk j hj => ?_, fun y hy hy3 => ?_, fun y hy => h.2.2.2 y (arr_LZ hb hz hy)⟩
  · by_cases e : c = b
    · rw [e]; rw [e, arr_new.2.1] at hc2; exact hm hc2 j
    · have hc0 : c ∈ sL sh := by
        rcases List.mem_append.mp hc with h | h
        · exact h
        · exact absurd (List.mem_singleton.mp h) e
      rw [hai c e]; exact h.1 c hc0 ((arr_old (kk := kk) (ln := ln) (cA := cA) hb hc0).2.1.symm.trans hc2) j
  · obtain ⟨y1, y2⟩ := oldz hy (by rw [hy3]; decide)
    have y3 : sK sh y = 3 := y2.symm.trans hy3
    obtain ⟨g, g1, g2, g3, g4⟩ := (H y ⟨y1, by rw [y3]; decide⟩).2.2.2.2.2.1 y3
    have eb : g = f := Option.some.inj (g1.symm.trans hf)
    subst eb
    have hne : g ≠ b := fun e => hb (e ▸ g2)
    rw [(arr_old (kk := kk) (ln := ln) (cA := cA) hb g2).2.2.1] at hj
    rw [hai g hne]
    exact h.2.1 y y1 y3 g g1 g3 j hj
  · obtain ⟨y1, y2⟩ := oldz hy (by rw [hy3]; decide)
    exact h.2.2.1 y y1 (y2.symm.trans hy3)
theorem XI.N (H : XI sh rk q ci ai n m pu) (hb : b ∉ sL sh) (hk : kk = 22 ∨ kk = 21) (hai : ∀ c, c ≠ b → ai' c = ai c) (hm : kk = 21 → ∀ j, m8 (ai' b j)) : XI (shN sh b kk ln cA) rk q ci ai' n m pu := by
  have hz : ¬ isZ kk := by rcases hk with rfl | rfl <;> decide
  have lift : ∀ {c k9 : Nat}, c ∈ sL sh → sK sh c = k9 → c ∈ sL (shN sh b kk ln cA) ∧ sK (shN sh b kk ln cA) c = k9 := fun hc h9 => ⟨(arr_old hb hc).1, (arr_old hb hc).2.1.trans h9⟩
  refine ⟨H.wf.N hb hz, H.num.N H.wf hb hk hai hm, lift H.own.1 H.own.2, ?_, ?_, ?_, ?_, fun y hy => H.rank y (arr_LZ hb hz hy), H.n24, H.m100, H.made, H.long, H.purse⟩
  · obtain ⟨t, t1, t2, t3⟩ := H.met
    exact ⟨t, t1, lift t2 t3⟩
  · obtain ⟨p, h1, h2, h3, h4, h5⟩ := H.pile
    refine ⟨p, h1, (lift h2 h3).1, (lift h2 h3).2, (arr_old hb h2).2.2.1.trans h4, fun i hi => ?_⟩
    obtain ⟨z, z1, z2⟩ := h5 i hi
    exact ⟨z, by rw [(arr_old hb h2).2.2.2]; exact z1, z2.N hb⟩
  · obtain ⟨p, h1, h2, h3, h4⟩ := H.row
    exact ⟨p, h1, (lift h2 h3).1, (lift h2 h3).2, (arr_old hb h2).2.2.1.trans h4⟩
  · obtain ⟨p, h1, h2, h3, h4, h5⟩ := H.fate
    refine ⟨p, h1, (lift h2 h3).1, (lift h2 h3).2, (arr_old hb h2).2.2.1.trans h4, fun j hj => ?_⟩
    rw [hai p (fun e => hb (e ▸ h2))]; exact h5 j hj
theorem m8.fits (h : m8 x) : fits .byte (.int x) = true := by
  obtain ⟨n, h2, rfl⟩ := h
  rcases (show n = 0 ∨ n = 1 ∨ n = 2 ∨ n = 3 ∨ n = 4 ∨ n = 5 ∨ n = 6 ∨ n = 7 ∨ n = 8 by omega) with rfl | rfl | rfl | rfl | rfl | rfl | rfl | rfl | rfl <;> decide
theorem m8_0 : m8 0 := ⟨0, by decide, rfl⟩
/-- the row's numbers, copied -/
theorem ok_copyL {Q : Nat → Sh → SCTy} (H : XI sh rk q ci ai n m pu) (hb : b ∈ sL sh ∧ sK sh b = 22 ∧ sN sh b = 100) (hQ : ∀ c sh' al', XI sh' rk q ci ai n m pu → (c ∈ sL sh' ∧ sK sh' c = 22 ∧ sN sh' c ≤ 400) → Q c sh' ci ai al') : P_J7_copyOf_c38d5 sh ci ai al b (nI m) Q := by
  have hm := H.m100
  refine ⟨⟨hb.1, hb.2.1⟩, fun hne => ⟨nI_pos (by omega), by rw [nI_clamp (by omega)]; omega, ?_⟩, fun he => ⟨by rw [hb.2.2]; decide, ?_⟩⟩
  · have hlt : m < 100 := by
      rcases Nat.lt_or_ge m 100 with e | e
      · exact e
      · exact absurd (by rw [hb.2.2, show m = 100 by omega]) hne
    rintro c cA _ hc rfl
    have e := arr_old (kk := 22) (ln := (nI m).toNatClampNeg) (cA := cA) hc hb.1
    have e2 := arr_new (sh := sh) (b := c) (kk := 22) (ln := (nI m).toNatClampNeg) (cA := cA)
    have hl : (nI m).toNatClampNeg = m := nI_clamp (by omega)
    refine ⟨⟨e.1, e.2.1.trans hb.2.1⟩, fun _ => ⟨⟨e2.1, e2.2.1⟩, nI_pos (by omega), ?_, ?_, hQ _ _ _ (H.N hc (Or.inl rfl) (fun _ _ => rfl) (fun h => absurd h (by decide))) ⟨e2.1, e2.2.1, ?_⟩⟩, fun hn => absurd ?_ hn⟩
    · rw [e.2.2.1, hb.2.2, hl]; show 0 + m ≤ 100; omega
    · rw [e2.2.2, hl]; show 0 + m ≤ m; omega
    · rw [e2.2.2, hl]; omega
    · rw [e.2.2.1, hb.2.2]; exact nI_lt hlt (by decide)
  · rintro c _ hc rfl
    have e2 := arr_new (sh := sh) (b := c) (kk := 22) (ln := sN sh b) (cA := sA sh b)
    exact ⟨⟨e2.1, e2.2.1⟩, hQ _ _ _ (H.N hc (Or.inl rfl) (fun _ _ => rfl) (fun h => absurd h (by decide))) ⟨e2.1, e2.2.1, by rw [e2.2.2, hb.2.2]; decide⟩⟩
/-- the row's fates, copied -/
theorem ok_copyB {Q : Nat → Sh → SCTy} (H : XI sh rk q ci ai n m pu) (hb : b ∈ sL sh ∧ sK sh b = 21 ∧ sN sh b = 100) (hf : ∀ j, j < m → ¬ ai b j = 0) (hQ : ∀ c sh' ai', XI sh' rk q ci ai' n m pu → (∀ d, d ∈ sL sh → d ∈ sL sh' ∧ sK sh' d = sK sh d ∧ sN sh' d = sN sh d) → (c ∈ sL sh' ∧ sK sh' c = 21 ∧ sN sh' c ≤ 400) → (∀ j, j < sN sh' c → ¬ ai' c j = 0) → Q c sh' ci ai' al) : P_J7_copyOf_9075b sh ci ai al b (nI m) Q := by
  have hm := H.m100
  have hfit : ∀ i, fits .byte (.int (ai b i)) = true := fun i => (H.num.1 b hb.1 hb.2.1 i).fits
  refine ⟨⟨hb.1, hb.2.1⟩, fun hne => ⟨nI_pos (by omega), by rw [nI_clamp (by omega)]; omega, ?_⟩, fun he => ⟨by rw [hb.2.2]; decide, fun i _ => hfit i, ?_⟩⟩
  · have hlt : m < 100 := by
      rcases Nat.lt_or_ge m 100 with e | e
      · exact e
      · exact absurd (by rw [hb.2.2, show m = 100 by omega]) hne
    rintro c cA _ hc rfl
    have e := arr_old (kk := 21) (ln := (nI m).toNatClampNeg) (cA := cA) hc hb.1
    have e2 := arr_new (sh := sh) (b := c) (kk := 21) (ln := (nI m).toNatClampNeg) (cA := cA)
    have hl : (nI m).toNatClampNeg = m := nI_clamp (by omega)
    have hbc : b ≠ c := fun h => hc (h ▸ hb.1)
    have hbb : va_up ai c (fun _ => 0) b = ai b := va_up_ne _ _ hbc
    refine ⟨⟨e.1, e.2.1.trans hb.2.1⟩, fun _ => ⟨⟨e2.1, e2.2.1⟩, nI_pos (by omega), ?_, ?_, fun i _ => by rw [hbb]; exact hfit i, hQ _ _ _ (H.N hc (Or.inr rfl) (fun d hd => ?_) (fun _ j => ?_)) (fun d hd => ⟨(arr_old hc hd).1, (arr_old hc hd).2.1, (arr_old hc hd).2.2.1⟩) ⟨e2.1, e2.2.1, ?_⟩ (fun j hj => ?_)⟩, fun hn => absurd ?_ hn⟩
    · rw [e.2.2.1, hb.2.2, hl]; show 0 + m ≤ 100; omega
    · rw [e2.2.2, hl]; show 0 + m ≤ m; omega
    · rw [va_up_ne _ _ hd, va_up_ne _ _ hd]
    · rw [va_self, hbb, va_self]
      unfold va_cpy
      split
      · exact H.num.1 b hb.1 hb.2.1 _
      · exact m8_0
    · rw [e2.2.2, hl]; omega
    · rw [e2.2.2, hl] at hj
      rw [va_self, hbb, va_self]
      unfold va_cpy
      rw [hl, if_pos ⟨Nat.zero_le _, by show j < 0 + m; omega⟩]
      exact hf _ (by show 0 + (j - 0) < m; omega)
    · rw [e.2.2.1, hb.2.2]; exact nI_lt hlt (by decide)
  · have hm100 : m = 100 := nI_inj (by omega) (by decide) (by rw [he, hb.2.2])
    rintro c _ hc rfl
    have e2 := arr_new (sh := sh) (b := c) (kk := 21) (ln := sN sh b) (cA := sA sh b)
    refine ⟨⟨e2.1, e2.2.1⟩, hQ _ _ _ (H.N hc (Or.inr rfl) (fun d hd => va_up_ne _ _ hd) (fun _ j => ?_)) (fun d hd => ⟨(arr_old hc hd).1, (arr_old hc hd).2.1, (arr_old hc hd).2.2.1⟩) ⟨e2.1, e2.2.1, by rw [e2.2.2, hb.2.2]; decide⟩ (fun j hj => ?_)⟩
    · rw [va_self]; exact H.num.1 b hb.1 hb.2.1 j
    · rw [e2.2.2, hb.2.2] at hj
      rw [va_self]; exact hf j (by omega)
theorem mk_given {Q : Int32 → Sh → SCTy} (H : XI sh rk q ci ai n m pu) (hQ : n < 24 → KM q n 0 pu Q) (hU : ¬ n < 24 → X "java/lang/UnsupportedOperationException") : P_X11_given sh ci ai al q p0 Q X := by
  refine ⟨H.own, ok_checkRoom H (fun a4 => ?_) hU⟩
  obtain ⟨b, hb, b1, b2, b3⟩ := H.row
  refine ⟨b, hb, ?_⟩
  rw [H.long]
  refine ok_copyL H ⟨b1, b2, b3⟩ (fun c sh4 al4 H4 hc => ⟨H4.own, ?_⟩)
  obtain ⟨g, hg, g1, g2, g3, g4⟩ := H4.fate
  refine ⟨g, hg, ?_⟩
  rw [H4.long]
  refine ok_copyB H4 ⟨g1, g2, g3⟩ g4 (fun f sh9 ai9 H9 hold hf hf2 => ⟨H9.own, ?_⟩)
  have H10 : XI sh9 rk q (va_up ci q (va_up (ci q) 5 0)) ai9 n 0 pu := by
    obtain ⟨a, h1, h2, h3, h4, h5⟩ := H9.fate
    refine ⟨H9.wf, H9.num.obj H9.own.2, H9.own, H9.met, H9.pile, H9.row, ⟨a, h1, h2, h3, h4, fun j hj => absurd hj (Nat.not_lt_zero _)⟩, H9.rank, H9.n24, by decide, ?_, up_same, ?_⟩
    · rw [up2 (fun e => absurd e.2 (by decide))]; exact H9.made
    · rw [up2 (fun e => absurd e.2 (by decide))]; exact H9.purse
  have hc9 : c ∈ sL sh9 ∧ sK sh9 c = 22 ∧ sN sh9 c ≤ 400 := ⟨(hold c hc.1).1, (hold c hc.1).2.1.trans hc.2.1, le_eq (hold c hc.1).2.2 hc.2.2⟩
  rintro z _ hz rfl
  have N : Nw sh9 z 3 (shO sh9 z 3) (va_up ci q (va_up (ci q) 5 0)) ai9 (va_up (va_up ci q (va_up (ci q) 5 0)) z (fun _ => 0)) ai9 := Nw.O hz
  obtain ⟨t, t1, t2⟩ := H10.met
  obtain ⟨o1, o2, o3, o4, -⟩ := N.2.2.2.1 q H10.own.1
  refine ⟨⟨o1, o2.trans H10.own.2⟩, t, (congrFun o4 0).trans t1, fun _ => ⟨⟨N.2.1, N.2.2.1⟩, ?_⟩, fun _ => ⟨⟨N.2.1, N.2.2.1⟩, ?_⟩⟩
  · exact ok_X3 N hc9 hf hf2 r8_2 (fun sh' ci' ai' al' N' F' W' => Nw.add (by decide) H10 N' a4 t2 F' W' (fun sh2 rk2 ci2 ai2 h2 => hQ a4 _ _ _ _ _ h2))
  · exact ok_X3 N hc9 hf hf2 (r8_n (n := 4) (by decide) (by decide)) (fun sh' ci' ai' al' N' F' W' => Nw.add (by decide) H10 N' a4 t2 F' W' (fun sh2 rk2 ci2 ai2 h2 => hQ a4 _ _ _ _ _ h2))
/-- a byte array filled with ones -/
theorem ok_fill {Q : Sh → SCTy} (H : XI sh rk q ci ai n m pu) (hb : b ∈ sL sh ∧ sK sh b = 21 ∧ sN sh b ≤ 400) (hQ : ∀ ai', XI sh rk q ci ai' n m pu → (∀ j, j < sN sh b → ¬ ai' b j = 0) → Q sh ci ai' al) : P_J7_fill_031fb sh ci ai al b 1 Q := by
  have key : ∀ (f i : Nat) (ai : Nat → Nat → Int32), sN sh b - i < f → i ≤ sN sh b → XI sh rk q ci ai n m pu → (∀ j, j < i → ¬ ai b j = 0) → P_J7_fill_031fb_5 Q 0 f sh ci ai al b 1 (nI i) (nI (sN sh b)) := by
    intro f
    induction f with
    | zero => intro i ai hn; exact absurd hn (Nat.not_lt_zero _)
    | succ f ih =>
      intro i ai hn hi H hj
      refine ⟨fun hle => hQ _ H (fun j hj2 => hj j ?_), fun hlt => ?_⟩
      · rcases Nat.lt_or_ge i (sN sh b) with e | e
        · exact absurd hle (nI_ge e (by omega))
        · omega
      · have hlt' : i < sN sh b := by
          rcases Nat.lt_or_ge i (sN sh b) with e | e
          · exact e
          · exact absurd (nI_le e (by omega)) hlt
        refine ⟨⟨hb.1, hb.2.1⟩, vp_in_nI hlt' (by omega), ?_⟩
        show P_J7_fill_031fb_5 Q 0 f sh ci (va_up ai b (upd (ai b) (nI i).toNatClampNeg (vp_nar .byte 1))) al b 1 (nI i + 1) (nI (sN sh b))
        rw [nIs, nI_clamp (by omega), show vp_nar .byte 1 = 1 by decide]
        refine ih (i + 1) _ (by omega) (by omega) (H.ask (H.num.mark r8_1) (Rel.mark r8_1)) (fun j hj2 => ?_)
        rw [upd2]; split
        · decide
        · rename_i hne
          exact hj j (by have : ¬ j = i := fun e => hne ⟨rfl, e⟩; omega)
  exact ⟨⟨hb.1, hb.2.1⟩, _, key _ 0 _ (Nat.lt_succ_self _) (Nat.zero_le _) H (fun j hj => absurd hj (Nat.not_lt_zero _))⟩
theorem mk_count {Q : Int32 → Sh → SCTy} (H : XI sh rk q ci ai n m pu) (hQ : n < 24 → KM q n m pu Q) (hU : ¬ n < 24 → X "java/lang/UnsupportedOperationException") : P_X11_count sh ci ai al q y1 y2 Q X := by
  refine ⟨H.own, ok_checkRoom H (fun a4 => ?_) hU⟩
  rintro c cA _ hc rfl
  have H1 : XI (shN sh c 22 (400 : Int32).toNatClampNeg cA) rk q ci ai n m pu := H.N hc (Or.inl rfl) (fun _ _ => rfl) (fun h => absurd h (by decide))
  obtain ⟨c1, c2, c3⟩ := arr_new (sh := sh) (b := c) (kk := 22) (ln := (400 : Int32).toNatClampNeg) (cA := cA)
  generalize shN sh c 22 (400 : Int32).toNatClampNeg cA = s1 at H1 c1 c2 c3 ⊢
  have c4 : sN s1 c = 400 := c3
  have key : ∀ (f i : Nat) (al : Nat → Nat → Int64), 400 - i < f → i ≤ 400 → P_X11_count_14 Q q f s1 ci ai al y1 y2 c (nI i) := by
    intro f
    induction f with
    | zero => intro i al hn; exact absurd hn (Nat.not_lt_zero _)
    | succ f ih =>
      intro i al hn hi
      refine ⟨fun hle => ?_, fun hlt => ?_⟩
      · rintro g gA _ hg rfl
        have H2 : XI (shN s1 g 21 (400 : Int32).toNatClampNeg gA) rk q ci (va_up ai g (fun _ => 0)) n m pu := H1.N hg (Or.inr rfl) (fun d hd => va_up_ne _ _ hd) (fun _ j => by rw [va_self]; exact m8_0)
        obtain ⟨g1, g2, g3⟩ := arr_new (sh := s1) (b := g) (kk := 21) (ln := (400 : Int32).toNatClampNeg) (cA := gA)
        have hc9 := arr_old (kk := 21) (ln := (400 : Int32).toNatClampNeg) (cA := gA) hg c1
        generalize shN s1 g 21 (400 : Int32).toNatClampNeg gA = s2 at H2 g1 g2 g3 hc9 ⊢
        refine ok_fill H2 ⟨g1, g2, le_eq g3 n400⟩ (fun ai5 H5 h5 => ?_)
        rintro z _ hz rfl
        have N : Nw s2 z 3 (shO s2 z 3) ci ai5 (va_up ci z (fun _ => 0)) ai5 := Nw.O hz
        obtain ⟨t, t1, t2⟩ := H5.met
        obtain ⟨o1, o2, o3, o4, -⟩ := N.2.2.2.1 q H5.own.1
        exact ⟨⟨o1, o2.trans H5.own.2⟩, t, (congrFun o4 0).trans t1, ⟨N.2.1, N.2.2.1⟩, ok_X3 N ⟨hc9.1, hc9.2.1.trans c2, le_eq (hc9.2.2.1.trans c4) (Nat.le_refl _)⟩ ⟨g1, g2, le_eq g3 n400⟩ h5 r8_3 (fun sh' ci' ai' al' N' F' W' => Nw.add (by decide) H5 N' a4 t2 F' W' (fun sh2 rk2 ci2 ai2 h2 => hQ a4 _ _ _ _ _ h2))⟩
      · have hlt' : i < 400 := by
          rcases Nat.lt_or_ge i 400 with e | e
          · exact e
          · exact absurd (nI_le (a := 400) (b := i) e (by omega)) hlt
        refine ⟨⟨c1, c2⟩, by rw [c4]; exact vp_in_nI hlt' (by decide), ?_⟩
        rw [nIs]
        exact ih (i + 1) _ (by omega) (by omega)
  exact ⟨_, key _ 0 _ (Nat.lt_succ_self _) (by decide)⟩
end XG
end H59
