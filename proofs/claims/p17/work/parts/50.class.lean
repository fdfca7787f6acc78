section H50
/-- a list of the class -/
def LZ (sh : Sh) (q : Nat) : Prop := q ∈ sL sh ∧ isZ (sK sh q)
/-- which fields of a list point at lists -/
def lref (K k : Nat) : Prop := (k = 5 ∧ (K = 0 ∨ K = 1 ∨ K = 2 ∨ K = 4 ∨ K = 6 ∨ K = 7 ∨ K = 8 ∨ K = 9)) ∨ (k = 6 ∧ (K = 1 ∨ K = 4))
/-- the shape: every list's rows and lists are there, and its lists lie below it -/
def Wf (sh : Sh) (rk : Nat → Nat) : Prop := ∀ q, LZ sh q →
  (∃ b, sR sh q 0 = some b ∧ b ∈ sL sh ∧ sK sh b = 5) ∧
  (∃ b, sR sh q 1 = some b ∧ b ∈ sL sh ∧ sK sh b = 22 ∧ sN sh b ≤ 400) ∧
  (∃ b, sR sh q 2 = some b ∧ b ∈ sL sh ∧ sK sh b = 21 ∧ sN sh b ≤ 400) ∧
  (∀ k, lref (sK sh q) k → ∀ z, sR sh q k = some z → LZ sh z ∧ rk z < rk q) ∧
  (¬ sK sh q = 0 → ¬ sK sh q = 3 → ∃ z, sR sh q 5 = some z) ∧
  (sK sh q = 3 → ∃ b, sR sh q 5 = some b ∧ b ∈ sL sh ∧ sK sh b = 21 ∧ sN sh b ≤ 400) ∧
  (sK sh q = 6 → ∀ b, sR sh q 6 = some b → b ∈ sL sh ∧ sK sh b = 20 ∧ sN sh b ≤ 400) ∧
  (sK sh q = 8 → ∃ b, sR sh q 6 = some b ∧ b ∈ sL sh ∧ sK sh b = 20 ∧ sN sh b ≤ 400) ∧
  (sK sh q = 9 → ∃ b, sR sh q 8 = some b ∧ b ∈ sL sh ∧ sK sh b = 20 ∧ sN sh b ≤ 400) ∧ rk q < 24
theorem Wf.of {sh : Sh} {rk : Nat → Nat} (h : Wf sh rk) {q : Nat} (hq : LZ sh q) (h0 : ¬ sK sh q = 0) (h3 : ¬ sK sh q = 3) : ∃ z, sR sh q 5 = some z ∧ LZ sh z ∧ rk z < rk q := by
  obtain ⟨z, hz⟩ := (h q hq).2.2.2.2.1 h0 h3
  have hk := hq.2
  exact ⟨z, hz, (h q hq).2.2.2.1 5 (Or.inl ⟨rfl, by unfold isZ at hk; omega⟩) z hz⟩
theorem Wf.low {sh : Sh} {rk : Nat → Nat} (h : Wf sh rk) {q k : Nat} (hq : LZ sh q) (hk : lref (sK sh q) k) {z : Nat} (hz : sR sh q k = some z) : LZ sh z ∧ rk z < rk q := (h q hq).2.2.2.1 k hk z hz
theorem LZ.of {sh : Sh} {q K : Nat} (hq : q ∈ sL sh) (e : sK sh q = K) (hK : isZ K) : LZ sh q := ⟨hq, by rw [e]; exact hK⟩
theorem vin {x : Int32} {L : Nat} (h0 : ¬ x < 0) (h : ¬ nI L ≤ x) (hL : L ≤ 400) : vp_in x L := by
  obtain ⟨j, hj, e, -⟩ := pk_mu h0 h (show L < 2 ^ 31 by omega)
  rw [e]; exact vp_in_nI hj (by omega)
theorem vin' {x : Int32} {L : Nat} (h0 : ¬ x < 0) (h : x < nI L) (hL : L ≤ 400) : vp_in x L := vin h0 (Int32.not_le.mpr h) hL
section CR
variable {sh : Sh} {rk : Nat → Nat} {ci : Nat → Nat → Int32} {ai : Nat → Nat → Int32} {al : Nat → Nat → Int64} {q : Nat} {k : Int32}
theorem ok_there {Q : Int32 → Prop} (hq : LZ sh q) (hQ : ∀ r, Q r) : P_X5_there sh ci ai al q Q := ⟨hq, fun _ => hQ _, fun _ => hQ _⟩
/-- what source tells: the list itself, or one below it -/
theorem ok_source {Q : Nat → Prop} (hw : Wf sh rk) (hq : LZ sh q) (hQ : ∀ z, (z = q ∧ (sK sh q = 0 ∨ sK sh q = 1 ∨ sK sh q = 3 ∨ sK sh q = 8)) ∨ (LZ sh z ∧ rk z < rk q) → Q z) : P_V_source sh ci ai al q k Q := by
  have hof := fun h0 h3 => hw.of hq h0 h3
  refine ⟨fun e => ⟨hq, hQ _ (Or.inl ⟨rfl, Or.inl e⟩)⟩, fun e => ⟨hq, hQ _ (Or.inl ⟨rfl, Or.inr (Or.inl e)⟩)⟩, fun e => ?_, fun e => ⟨hq, hQ _ (Or.inl ⟨rfl, Or.inr (Or.inr (Or.inl e))⟩)⟩, fun e => ?_, fun e => ?_, fun e => ?_, fun e => ⟨hq, hQ _ (Or.inl ⟨rfl, Or.inr (Or.inr (Or.inr e))⟩)⟩, fun e => ?_⟩
  · obtain ⟨z, hz, h1⟩ := hof (by omega) (by omega)
    exact ⟨⟨hq.1, e⟩, z, hz, hQ _ (Or.inr h1)⟩
  · obtain ⟨z, hz, h1⟩ := hof (by omega) (by omega)
    refine ⟨⟨hq.1, e⟩, z, hz, h1.1, ok_there h1.1 (fun r => ⟨fun _ => hQ _ (Or.inr h1), fun _ => ⟨fun _ => hQ _ (Or.inr h1), fun z2 h2 => hQ _ (Or.inr (hw.low hq (Or.inr ⟨rfl, Or.inr e⟩) h2))⟩⟩)⟩
  · obtain ⟨z, hz, h1⟩ := hof (by omega) (by omega)
    exact ⟨⟨hq.1, e⟩, z, hz, hQ _ (Or.inr h1)⟩
  · obtain ⟨z, hz, h1⟩ := hof (by omega) (by omega)
    exact ⟨⟨hq.1, e⟩, z, hz, hQ _ (Or.inr h1)⟩
  · obtain ⟨z, hz, h1⟩ := hof (by omega) (by omega)
    exact ⟨⟨hq.1, e⟩, z, hz, hQ _ (Or.inr h1)⟩
theorem ok_place {Q : Int32 → Prop} (hw : Wf sh rk) (hq : LZ sh q) (hQ : ∀ r, Q r) : P_V_place sh ci ai al q k Q := by
  have hof := fun h0 h3 => hw.of hq h0 h3
  refine ⟨fun e => ⟨hq, hQ _⟩, fun e => ⟨hq, hQ _⟩, fun e => ⟨hq, hQ _⟩, fun e => ⟨hq, hQ _⟩, fun e => ?_, fun e => ?_, fun e => ⟨⟨hq.1, e⟩, hQ _⟩, fun e => ⟨hq, hQ _⟩, fun e => ?_⟩
  · obtain ⟨z, hz, h1⟩ := hof (by omega) (by omega)
    exact ⟨⟨hq.1, e⟩, z, hz, h1.1, ok_there h1.1 (fun r => ⟨fun _ => ⟨fun _ => ⟨fun h => ⟨h, hQ _⟩, fun _ => hQ _⟩, fun _ _ => hQ _⟩, fun _ => hQ _⟩)⟩
  · refine ⟨⟨hq.1, e⟩, fun _ => ?_, fun b hb => ⟨fun _ => hQ _, fun h0 => ?_⟩⟩
    · obtain ⟨z, hz, h1⟩ := hof (by omega) (by omega)
      exact ⟨z, hz, h1.1, ok_there h1.1 (fun r => hQ _)⟩
    · obtain ⟨b1, b2, b3⟩ := (hw q hq).2.2.2.2.2.2.1 e b hb
      exact ⟨⟨b1, b2⟩, fun _ => hQ _, fun h => ⟨vin h0 h b3, hQ _⟩⟩
  · refine ⟨⟨hq.1, e⟩, fun _ => hQ _, fun h0 => ?_⟩
    obtain ⟨b, hb, b1, b2, b3⟩ := (hw q hq).2.2.2.2.2.2.2.2.1 e
    exact ⟨b, hb, ⟨b1, b2⟩, fun _ => hQ _, fun h => ⟨vin h0 h b3, hQ _⟩⟩
theorem ok_number {f : Nat} : ∀ {q : Nat} {k : Int32} {Q : Int64 → Prop}, Wf sh rk → LZ sh q → rk q < f → (∀ r, Q r) → P_X5_number_f sh f ci ai al q k Q := by
  induction f with
  | zero => intro q k Q hw hq hf; exact absurd hf (Nat.not_lt_zero _)
  | succ f ih =>
    intro q k Q hw hq hf hQ
    refine ⟨hq, ok_source hw hq (fun z hz => ⟨fun _ => ⟨fun _ => hQ _, fun h0 => ?_⟩, fun hne => ok_place hw hq (fun r => ?_)⟩)⟩
    · obtain ⟨b, hb, b1, b2, b3⟩ := (hw q hq).2.1
      exact ⟨b, hb, ⟨b1, b2⟩, fun _ => hQ _, fun h => ⟨vin h0 h b3, hQ _⟩⟩
    · rcases hz with ⟨e, -⟩ | ⟨h1, h2⟩
      · exact absurd (by rw [e]) hne
      · exact ⟨h1, ih hw h1 (by omega) (fun r => hQ _)⟩
theorem ok_number30 {Q : Int64 → Prop} (hw : Wf sh rk) (hq : LZ sh q) (hQ : ∀ r, Q r) : P_X5_number_f sh 30 ci ai al q k Q := ok_number hw hq (by have := (hw q hq).2.2.2.2.2.2.2.2.2; omega) hQ
theorem nar0 : narrow .boolean (.int 0) = .int 0 := by decide
theorem nar1 : narrow .boolean (.int 1) = .int 1 := by decide
theorem ok_isWorked {f : Nat} : ∀ {q : Nat} {k : Int32} {Q : Int32 → Prop}, Wf sh rk → LZ sh q → rk q < f → (∀ r : Int32, r = 0 ∨ r = 1 → Q r) → P_X5_isWorked_f sh f ci ai al q k Q := by
  induction f with
  | zero => intro q k Q hw hq hf; exact absurd hf (Nat.not_lt_zero _)
  | succ f ih =>
    intro q k Q hw hq hf hQ
    refine ⟨hq, ok_source hw hq (fun z hz => ⟨fun _ => ⟨fun _ => hQ _ (Or.inl rfl), fun h0 => ?_⟩, fun hne => ok_place hw hq (fun r => ?_)⟩)⟩
    · obtain ⟨b, hb, b1, b2, b3⟩ := (hw q hq).2.2.1
      exact ⟨b, hb, ⟨b1, b2⟩, fun _ => hQ _ (Or.inl rfl), fun h => ⟨vin h0 h b3, fun _ => hQ _ (Or.inl rfl), fun _ => hQ _ (Or.inr rfl)⟩⟩
    · rcases hz with ⟨e, -⟩ | ⟨h1, h2⟩
      · exact absurd (by rw [e]) hne
      · refine ⟨h1, ih hw h1 (by omega) (fun r hr => ⟨?_, hQ _ hr⟩)⟩
        rcases hr with rfl | rfl
        · exact nar0
        · exact nar1
/-- of a list with items of its own (Chained): it tells whether the mark is there -/
theorem ok_isWorked0 {f : Nat} {Q : Int32 → Prop} (hw : Wf sh rk) (hq : LZ sh q) (h0 : sK sh q = 0) {b : Nat} (hb : sR sh q 2 = some b) (hQ0 : Q 0) (hQ1 : ∀ j : Nat, j < sN sh b → k = nI j → ¬ ai b j = 0 → Q 1) : P_X5_isWorked_f sh (f + 1) ci ai al q k Q := by
  refine ⟨hq, ⟨fun e => ⟨hq, ⟨fun _ => ⟨fun _ => hQ0, fun hk => ?_⟩, fun hne => absurd rfl hne⟩⟩, fun e => absurd (h0.symm.trans e) (by decide), fun e => absurd (h0.symm.trans e) (by decide), fun e => absurd (h0.symm.trans e) (by decide), fun e => absurd (h0.symm.trans e) (by decide), fun e => absurd (h0.symm.trans e) (by decide), fun e => absurd (h0.symm.trans e) (by decide), fun e => absurd (h0.symm.trans e) (by decide), fun e => absurd (h0.symm.trans e) (by decide)⟩⟩
  obtain ⟨b2, hb2, b3, b4, b5⟩ := (hw q hq).2.2.1
  obtain rfl : b = b2 := Option.some.inj (hb.symm.trans hb2)
  refine ⟨b, hb, ⟨b3, b4⟩, fun _ => hQ0, fun h => ⟨vin hk h b5, fun _ => hQ0, fun hn => ?_⟩⟩
  obtain ⟨j, hj, e, -⟩ := pk_mu hk h (show sN sh b < 2 ^ 31 by omega)
  refine hQ1 j hj e ?_
  rw [e, nI_clamp (by omega)] at hn
  exact hn
theorem cmp0 {x : Int64} : lg_cmp x 0 = 0 ↔ x = 0 := lg_cmp_eq x 0
theorem ok_meets {p0 : Int32} {p1 p2 : Int64} {Q : Int32 → Prop} (h0 : Q 0) (h1 : Q 1) : P_X11_meets p0 p1 p2 Q :=
  ⟨fun _ => ⟨fun _ => h0, fun _ => h1⟩, fun _ => ⟨fun _ => ⟨fun _ => h0, fun _ => h1⟩, fun _ => ⟨fun _ => ⟨fun _ => h0, fun _ => h1⟩, fun _ => ⟨fun h => ⟨fun e => h (cmp0.mpr e), fun _ => h0, fun _ => h1⟩, fun _ => ⟨fun _ => h0, fun _ => h1⟩⟩⟩⟩⟩
theorem ok_dbn {p0 : Int32} {p1 : Int64} {Q : Int32 → Prop} (h0 : Q 0) (h1 : Q 1) : P_X11_dividesByNone p0 p1 Q :=
  ⟨fun _ => h0, fun _ => ⟨fun _ => h1, fun _ => ⟨fun _ => h0, fun _ => h1⟩⟩⟩
theorem ok_reckon {p0 : Int32} {p1 p2 : Int64} {Q : Int64 → Prop} (hQ : ∀ r, Q r) : P_X11_reckon p0 p1 p2 Q := by
  unfold P_X11_reckon P_J9_floorDiv_f86c9 P_J9_floorMod_f86c9 P_J9_min_f86c9 P_J9_max_f86c9
  have hz : ¬ lg_cmp p2 0 = 0 → ¬ p2 = 0 := fun h e => h (cmp0.mpr e)
  simp only [hQ, implies_true, and_true, true_and]
  exact fun _ _ _ => ⟨fun _ h => hz h, fun _ _ h => hz h⟩
theorem ok_lets {p0 : Int64} {Q : Int32 → Prop} (hw : Wf sh rk) (hq : q ∈ sL sh) (h9 : sK sh q = 9) (h0 : Q 0) (h1 : Q 1) : P_X10_lets sh ci ai al q p0 k Q := by
  have hz : LZ sh q := LZ.of hq h9 (by decide)
  refine ⟨⟨hq, h9⟩, fun _ => ?_, fun _ => ok_meets ⟨nar0, h0⟩ ⟨nar1, h1⟩⟩
  have key : ∀ (n : Nat) (x4 : Int32), (k.toInt - x4.toInt).toNat < n → P_X10_lets_24 sh ci ai al Q q n p0 k x4 := by
    intro n
    induction n with
    | zero => intro x4 h; exact absurd h (Nat.not_lt_zero _)
    | succ n ih =>
      intro x4 hn
      refine ⟨fun _ => h1, fun hlt => ok_number30 hw hz (fun r => ⟨fun _ => ih _ ?_, fun _ => h0⟩)⟩
      have hl : x4 < k := Int32.not_le.mp hlt
      have e1 : x4.toInt < k.toInt := Int32.lt_iff_toInt_lt.mp hl
      have e2 : (x4 + 1).toInt = x4.toInt + 1 := by
        have := k.toInt_lt; have := x4.le_toInt
        rw [Int32.toInt_add]; simp only [Int32.reduceToInt]; rw [Int.bmod_eq_of_le] <;> omega
      omega
  exact ⟨_, key _ _ (Nat.lt_succ_self _)⟩
end CR
end H50
section H51
def r8 (x : Int32) : Prop := ∃ n : Nat, 1 ≤ n ∧ n ≤ 8 ∧ x = nI n
def m8 (x : Int32) : Prop := ∃ n : Nat, n ≤ 8 ∧ x = nI n
/-- what the class's numbers are while asks run -/
def CI (sh : Sh) (ci ai : Nat → Nat → Int32) : Prop :=
  (∀ b, b ∈ sL sh → sK sh b = 21 → ∀ j, m8 (ai b j)) ∧
  (∀ q, q ∈ sL sh → sK sh q = 3 → ∀ f, sR sh q 5 = some f → sK sh f = 21 → ∀ j, j < sN sh f → ¬ ai f j = 0) ∧
  (∀ q, q ∈ sL sh → sK sh q = 3 → r8 (ci q 6)) ∧
  (∀ q, LZ sh q → ∃ m c : Nat, ci q 3 = nI m ∧ ci q 4 = nI c ∧ c ≤ 8 ∧ m ≤ 401 ∧ (c = 0 → m ≤ 400))
/-- what an ask leaves as it was: marks stay, lists of rank r and above keep what they reached, the object keeps its own fields -/
def Rel (sh : Sh) (rk : Nat → Nat) (r : Nat) (ci ai ci' ai' : Nat → Nat → Int32) : Prop :=
  (∀ b, b ∈ sL sh → sK sh b = 21 → ∀ j, ¬ ai b j = 0 → ¬ ai' b j = 0) ∧
  (∀ z, LZ sh z → r ≤ rk z → ci' z 3 = ci z 3 ∧ ci' z 4 = ci z 4) ∧
  (∀ z, sK sh z = 10 → ci' z = ci z)
abbrev SCTy : Type := (Nat → Nat → Int32) → (Nat → Nat → Int32) → (Nat → Nat → Int64) → Prop
abbrev GTy : Type := (Nat → Nat → Int32) → (Nat → Nat → Int32) → (Nat → Nat → Int64) → Nat → Int32 → (Int32 → SCTy) → Prop
abbrev Kt (sh : Sh) (rk : Nat → Nat) (r : Nat) (ci ai : Nat → Nat → Int32) (Q : Int32 → SCTy) : Prop := ∀ (x : Int32) (ci' ai' : Nat → Nat → Int32) (al' : Nat → Nat → Int64), r8 x → CI sh ci' ai' → Rel sh rk r ci ai ci' ai' → Q x ci' ai' al'
abbrev Low (sh : Sh) (rk : Nat → Nat) (R : Nat) (Gr Gw : GTy) : Prop := ∀ z, LZ sh z → rk z < R → ∀ (ci ai : Nat → Nat → Int32) (al : Nat → Nat → Int64) (k : Int32) (Q : Int32 → SCTy), CI sh ci ai → Kt sh rk R ci ai Q → Gr ci ai al z k Q ∧ Gw ci ai al z k Q
theorem r8_n {n : Nat} (h1 : 1 ≤ n) (h2 : n ≤ 8) : r8 (nI n) := ⟨n, h1, h2, rfl⟩
theorem r8_1 : r8 1 := r8_n (n := 1) (by decide) (by decide)
theorem r8_2 : r8 2 := r8_n (n := 2) (by decide) (by decide)
theorem r8_3 : r8 3 := r8_n (n := 3) (by decide) (by decide)
theorem r8_5 : r8 5 := r8_n (n := 5) (by decide) (by decide)
theorem r8_6 : r8 6 := r8_n (n := 6) (by decide) (by decide)
theorem r8.ne {x : Int32} (h : r8 x) : ¬ x = 0 := by
  obtain ⟨n, h1, h2, rfl⟩ := h
  exact nI_ne0 (by omega) (by omega)
theorem r8.m8 {x : Int32} (h : r8 x) : m8 x := by
  obtain ⟨n, h1, h2, rfl⟩ := h
  exact ⟨n, h2, rfl⟩
theorem m8.r8 {x : Int32} (h : m8 x) (h0 : ¬ x = 0) : r8 x := by
  obtain ⟨n, h2, rfl⟩ := h
  rcases Nat.eq_zero_or_pos n with rfl | hp
  · exact absurd rfl h0
  · exact ⟨n, hp, h2, rfl⟩
theorem r8.nar {x : Int32} (h : r8 x) : vp_nar .byte x.toInt8.toInt32 = x := by
  obtain ⟨n, h1, h2, rfl⟩ := h
  rcases (show n = 1 ∨ n = 2 ∨ n = 3 ∨ n = 4 ∨ n = 5 ∨ n = 6 ∨ n = 7 ∨ n = 8 by omega) with rfl | rfl | rfl | rfl | rfl | rfl | rfl | rfl <;> decide
section CS
variable {sh : Sh} {rk : Nat → Nat} {ci ai ci1 ai1 ci2 ai2 : Nat → Nat → Int32} {al : Nat → Nat → Int64} {q r r' : Nat} {k x : Int32}
theorem Rel.rf : Rel sh rk r ci ai ci ai := ⟨fun _ _ _ _ h => h, fun _ _ _ => ⟨rfl, rfl⟩, fun _ _ => rfl⟩
theorem Rel.tr (h1 : Rel sh rk r ci ai ci1 ai1) (h2 : Rel sh rk r ci1 ai1 ci2 ai2) : Rel sh rk r ci ai ci2 ai2 :=
  ⟨fun b hb hk j h => h2.1 b hb hk j (h1.1 b hb hk j h), fun z hz hr => ⟨(h2.2.1 z hz hr).1.trans (h1.2.1 z hz hr).1, (h2.2.1 z hz hr).2.trans (h1.2.1 z hz hr).2⟩, fun z hz => (h2.2.2 z hz).trans (h1.2.2 z hz)⟩
theorem Rel.up (h : Rel sh rk r ci ai ci1 ai1) (hr : r ≤ r') : Rel sh rk r' ci ai ci1 ai1 := ⟨h.1, fun z hz h2 => h.2.1 z hz (Nat.le_trans hr h2), h.2.2⟩
theorem up2 {f : Nat → Nat → Int32} {q k z j : Nat} (h : ¬ (z = q ∧ j = k)) : va_up f q (va_up (f q) k x) z j = f z j := by
  unfold va_up
  by_cases h1 : z = q
  · subst h1
    rw [if_pos rfl, if_neg (fun e => h ⟨rfl, e⟩)]
  · rw [if_neg h1]
theorem CI.fld {j : Nat} (h : CI sh ci ai) (hj : j ≠ 3 ∧ j ≠ 4) (h3 : sK sh q = 3 → j ≠ 6) : CI sh (va_up ci q (va_up (ci q) j x)) ai := by
  refine ⟨h.1, h.2.1, fun z hz hk => ?_, fun z hz => ?_⟩
  · rw [up2 (z := z) (j := 6) (q := q) (k := j) (fun e => h3 (by rw [← e.1]; exact hk) e.2.symm)]; exact h.2.2.1 z hz hk
  · rw [up2 (fun e => hj.1 e.2.symm), up2 (fun e => hj.2 e.2.symm)]; exact h.2.2.2 z hz
theorem Rel.fld {j : Nat} (hj : j ≠ 3 ∧ j ≠ 4) (h10 : ¬ sK sh q = 10) : Rel sh rk r ci ai (va_up ci q (va_up (ci q) j x)) ai := by
  refine ⟨fun _ _ _ _ h => h, fun z hz _ => ⟨up2 (fun e => hj.1 e.2.symm), up2 (fun e => hj.2 e.2.symm)⟩, fun z hz => ?_⟩
  exact va_up_ne _ _ (fun e => h10 (e ▸ hz))
theorem CI.arr {f : Nat → Int32} (h : CI sh ci ai) (hk : sK sh q = 20) : CI sh ci (va_up ai q f) := by
  refine ⟨fun b hb hb2 j => ?_, fun z hz hz3 b hb hb2 j hj => ?_, h.2.2.1, h.2.2.2⟩
  · rw [va_up_ne _ _ (fun e => by rw [e, hk] at hb2; cases hb2)]; exact h.1 b hb hb2 j
  · rw [va_up_ne _ _ (fun e => by rw [e, hk] at hb2; cases hb2)]; exact h.2.1 z hz hz3 b hb hb2 j hj
theorem Rel.arr {f : Nat → Int32} (hk : sK sh q = 20) : Rel sh rk r ci ai ci (va_up ai q f) := by
  refine ⟨fun b hb hb2 j h => ?_, fun z hz _ => ⟨rfl, rfl⟩, fun z hz => rfl⟩
  rw [va_up_ne _ _ (fun e => by rw [e, hk] at hb2; cases hb2)]; exact h
theorem upd2 {f : Nat → Nat → Int32} {b c i j : Nat} : va_up f b (upd (f b) i x) c j = if c = b ∧ j = i then x else f c j := by
  unfold va_up upd
  by_cases h1 : c = b
  · subst h1
    by_cases h2 : j = i
    · rw [if_pos rfl, if_pos h2, if_pos ⟨rfl, h2⟩]
    · rw [if_pos rfl, if_neg h2, if_neg (fun e => h2 e.2)]
  · rw [if_neg h1, if_neg (fun e => h1 e.1)]
theorem CI.mark {b i : Nat} (h : CI sh ci ai) (hx : r8 x) : CI sh ci (va_up ai b (upd (ai b) i x)) := by
  refine ⟨fun c hc hc2 j => ?_, fun z hz hz3 c hc hc2 j hj => ?_, h.2.2.1, h.2.2.2⟩
  · rw [upd2]; split
    · exact hx.m8
    · exact h.1 c hc hc2 j
  · rw [upd2]; split
    · exact hx.ne
    · exact h.2.1 z hz hz3 c hc hc2 j hj
theorem Rel.mark {b i : Nat} (hx : r8 x) : Rel sh rk r ci ai ci (va_up ai b (upd (ai b) i x)) := by
  refine ⟨fun c hc hc2 j h => ?_, fun z hz _ => ⟨rfl, rfl⟩, fun z hz => rfl⟩
  rw [upd2]; split
  · exact hx.ne
  · exact h
theorem ok_spend {Q : Int32 → SCTy} (h : CI sh ci ai) (hq : q ∈ sL sh) (h5 : sK sh q = 5) (hQ : ∀ (y : Int32) (ci' : Nat → Nat → Int32), (y = 0 ∨ y = 1) → CI sh ci' ai → Rel sh rk 0 ci ai ci' ai → Q y ci' ai al) : P_X6_spend sh ci ai al q Q := by
  refine ⟨⟨hq, h5⟩, fun _ z _ => ?_, fun _ => hQ 0 ci (Or.inl rfl) h Rel.rf⟩
  exact hQ 1 _ (Or.inr rfl) ((h.fld (by decide) (fun e => absurd (h5.symm.trans e) (by decide))).fld (by decide) (fun e => absurd (h5.symm.trans e) (by decide))) ((Rel.fld (by decide) (fun e => absurd (h5.symm.trans e) (by decide))).tr (Rel.fld (by decide) (fun e => absurd (h5.symm.trans e) (by decide))))
theorem ok_tell {Q : Int32 → SCTy} {z : Int64} (hw : Wf sh rk) (hq : LZ sh q) (hQ : ∀ (y : Int32) (al' : Nat → Nat → Int64), r8 y → Q y ci ai al') : P_X5_tell sh ci ai al q k z Q := by
  refine ⟨hq, fun _ => hQ _ _ r8_3, fun h0 => ?_⟩
  obtain ⟨b, hb, b1, b2, b3⟩ := (hw q hq).2.1
  exact ⟨b, hb, ⟨b1, b2⟩, fun h => ⟨vin' h0 h b3, hQ _ _ r8_1⟩, fun _ => hQ _ _ r8_3⟩
theorem ok_tellOp {Q : Int32 → SCTy} {o : Int32} {z y : Int64} (hw : Wf sh rk) (hq : LZ sh q) (hQ : ∀ (y : Int32) (al' : Nat → Nat → Int64), r8 y → Q y ci ai al') : P_X5_tellOp sh ci ai al q k o z y Q :=
  ⟨hq, ok_dbn ⟨fun _ => ok_reckon (fun _ => ok_tell hw hq hQ), fun h => absurd rfl h⟩ ⟨fun h => absurd h (by decide), fun _ => hQ _ _ r8_5⟩⟩
/-- one more, below 401 -/
theorem inc400 {x : Int32} (h : ¬ 400 < x) : (x + 1).toInt = x.toInt + 1 ∧ x.toInt ≤ 400 := by
  have h1 : x.toInt ≤ 400 := by
    have := Int32.le_iff_toInt_le.mp (Int32.not_lt.mp h)
    simpa using this
  have h2 := x.le_toInt
  refine ⟨?_, h1⟩
  rw [Int32.toInt_add]; simp only [Int32.reduceToInt]; rw [Int.bmod_eq_of_le] <;> omega
theorem incLt {x y : Int32} (h : ¬ y ≤ x) : (x + 1).toInt = x.toInt + 1 ∧ x.toInt < y.toInt := by
  have h1 := Int32.lt_iff_toInt_lt.mp (Int32.not_le.mp h)
  have h2 := x.le_toInt; have h3 := y.toInt_lt
  refine ⟨?_, h1⟩
  rw [Int32.toInt_add]; simp only [Int32.reduceToInt]; rw [Int.bmod_eq_of_le] <;> omega
variable {Gr Gw : GTy} {Q : Int32 → SCTy}
theorem Kt.to {r : Nat} (hK : Kt sh rk r ci ai Q) (h : Rel sh rk r ci ai ci1 ai1) : Kt sh rk r ci1 ai1 Q := fun y c a l h1 h2 h3 => hK y c a l h1 h2 (h.tr h3)
theorem ok_findStart (hw : Wf sh rk) (hL : Low sh rk (rk q) Gr Gw) (hq : q ∈ sL sh) (h7 : sK sh q = 7) (h : CI sh ci ai) (hK : Kt sh rk (rk q) ci ai Q) : P_X8_findStart sh Gr Gw ci ai al q Q := by
  have hz : LZ sh q := LZ.of hq h7 (by decide)
  obtain ⟨z, hz5, hzl, hzr⟩ := hw.of hz (by omega) (by omega)
  have key : ∀ (n : Nat) (x : Int32) (ci1 ai1 : Nat → Nat → Int32) (al1 : Nat → Nat → Int64), (401 - x.toInt).toNat < n → CI sh ci1 ai1 → Kt sh rk (rk q) ci1 ai1 Q → P_X8_findStart_2 sh Gr Gw Q q n ci1 ai1 al1 x := by
    intro n
    induction n with
    | zero => intro x ci1 ai1 al1 hn; exact absurd hn (Nat.not_lt_zero _)
    | succ n ih =>
      intro x ci1 ai1 al1 hn h1 hK1
      refine ⟨fun _ => hK1 _ _ _ _ r8_3 h1 Rel.rf, fun hx => ⟨z, hz5, hzl, (hL z hzl hzr _ _ _ _ _ h1 (fun r5 c5 a5 l5 e1 e2 e3 => ⟨fun _ => ?_, fun _ => hK1 _ _ _ _ e1 e2 e3⟩)).1⟩⟩
      refine (hL z hzl hzr _ _ _ _ _ e2 (fun r6 c6 a6 l6 f1 f2 f3 => ?_)).2
      have hq8 : Q r6 (va_up c6 q (va_up (c6 q) 8 x)) a6 l6 := hK1 _ _ _ _ f1 (f2.fld (by decide) (fun e => absurd (h7.symm.trans e) (by decide))) ((e3.tr f3).tr (Rel.fld (by decide) (fun e => absurd (h7.symm.trans e) (by decide))))
      refine ⟨fun _ => hq8, fun _ => ok_number30 hw hzl (fun r7 => ok_meets ⟨fun h => absurd rfl h, fun _ => hq8⟩ ⟨fun _ => ih _ _ _ _ ?_ f2 ((hK1.to e3).to f3), fun h => absurd h (by decide)⟩)⟩
      have := inc400 hx
      omega
  exact ⟨⟨hq, h7⟩, _, key _ _ _ _ _ (Nat.lt_succ_self _) h hK⟩
theorem ok_lookThrough (hw : Wf sh rk) (hL : Low sh rk (rk q) Gr Gw) (hq : q ∈ sL sh) (h8 : sK sh q = 8) (h : CI sh ci ai) (hK : Kt sh rk (rk q) ci ai Q) : P_X9_lookThrough sh Gr Gw ci ai al q k Q := by
  have hz : LZ sh q := LZ.of hq h8 (by decide)
  obtain ⟨z, hz5, hzl, hzr⟩ := hw.of hz (by omega) (by omega)
  have key : ∀ (n : Nat) (v : Int64) (x : Int32) (ci1 ai1 : Nat → Nat → Int32) (al1 : Nat → Nat → Int64), (401 - x.toInt).toNat < n → CI sh ci1 ai1 → Kt sh rk (rk q) ci1 ai1 Q → P_X9_lookThrough_30 sh Gr Gw Q q n ci1 ai1 al1 v x := by
    intro n
    induction n with
    | zero => intro v x ci1 ai1 al1 hn; exact absurd hn (Nat.not_lt_zero _)
    | succ n ih =>
      intro v x ci1 ai1 al1 hn h1 hK1
      have h2 : CI sh (va_up ci1 q (va_up (ci1 q) 7 x)) ai1 := h1.fld (by decide) (fun e => absurd (h8.symm.trans e) (by decide))
      have hR : Rel sh rk (rk q) ci1 ai1 (va_up ci1 q (va_up (ci1 q) 7 x)) ai1 := Rel.fld (by decide) (fun e => absurd (h8.symm.trans e) (by decide))
      have hK2 := hK1.to hR
      refine ⟨fun _ => hK1 _ _ _ _ r8_3 h1 Rel.rf, fun hx => ⟨z, hz5, hzl, (hL z hzl hzr _ _ _ _ _ h2 (fun r5 c5 a5 l5 e1 e2 e3 => ⟨fun _ => ?_, fun _ => hK2 _ _ _ _ e1 e2 e3⟩)).1⟩⟩
      refine (hL z hzl hzr _ _ _ _ _ e2 (fun r6 c6 a6 l6 f1 f2 f3 => ⟨fun _ => hK2 _ _ _ _ f1 f2 (e3.tr f3), fun _ => ok_number30 hw hzl (fun r7 => ⟨fun _ => ih _ _ _ _ _ ?_ f2 ((hK2.to e3).to f3), fun _ => hK2 _ _ _ _ f1 f2 (e3.tr f3)⟩)⟩)).2
      have := inc400 hx
      omega
  exact ⟨⟨hq, h8⟩, z, hz5, hzl, (hL z hzl hzr _ _ _ _ _ h (fun r5 c5 a5 l5 e1 e2 e3 => ⟨fun _ => ok_number30 hw hzl (fun r6 => ⟨_, key _ _ _ _ _ _ (Nat.lt_succ_self _) e2 (hK.to e3)⟩), fun _ => hK _ _ _ _ e1 e2 e3⟩)).2⟩
end CS
end H51
section H52
section CS2
variable {sh : Sh} {rk : Nat → Nat} {ci ai ci1 ai1 ci2 ai2 : Nat → Nat → Int32} {al : Nat → Nat → Int64} {q : Nat} {k x : Int32} {Gr Gw : GTy} {Q : Int32 → SCTy}
theorem decPos {x : Int32} (h : ¬ x ≤ 0) : (x + (-1)).toInt = x.toInt - 1 ∧ 0 < x.toInt := by
  have h1 : 0 < x.toInt := by
    have := Int32.lt_iff_toInt_lt.mp (Int32.not_le.mp h)
    simpa using this
  have h2 := x.toInt_lt
  refine ⟨?_, h1⟩
  rw [Int32.toInt_add]; simp only [Int32.reduceToInt]; rw [Int.bmod_eq_of_le] <;> omega
theorem dn1 {t u : Int} {n : Nat} (h : t = u - 1) (h0 : 0 < u) (hn : u.toNat < n + 1) : t.toNat < n := by omega
theorem dn2 {t u : Int} (h : t = u - 1) (h0 : 0 < u) : 0 ≤ t := by omega
theorem dn3 {t u : Int} {m : Nat} (h : t = u - 1) (h0 : u < m) : t < m := by omega
theorem subOne {x : Int32} : x - 1 = x + (-1) := by
  apply Int32.toInt_inj.mp
  rw [Int32.toInt_sub, Int32.toInt_add]
  simp only [Int32.reduceToInt]
  congr 1
theorem vpT {x : Int32} {n : Nat} (h0 : 0 ≤ x.toInt) (h : x.toInt < n) : vp_in x n := vp_in_iff.mpr ⟨h0, h⟩
theorem ok_insertPlace {Q : SCTy} {b : Nat} (hw : Wf sh rk) (hq : q ∈ sL sh) (h6 : sK sh q = 6) (hb : sR sh q 6 = some b) (h0 : 0 ≤ x.toInt) (h1 : x.toInt < sN sh b) (h : CI sh ci ai) (hK : ∀ ai', CI sh ci ai' → (∀ r, Rel sh rk r ci ai ci ai') → Q ci ai' al) : P_X7_insertPlace sh ci ai al q x Q := by
  have hz : LZ sh q := LZ.of hq h6 (by decide)
  obtain ⟨z, hz5, hzl, hzr⟩ := hw.of hz (by omega) (by omega)
  obtain ⟨b1, b2, b3⟩ := (hw q hz).2.2.2.2.2.2.1 h6 b hb
  have bb : ∀ z, sR sh q 6 = some z → z = b := fun z hz => Option.some.inj (hz.symm.trans hb)
  have key : ∀ (n : Nat) (v : Int64) (y : Int32) (ai1 : Nat → Nat → Int32), y.toInt.toNat < n → 0 ≤ y.toInt → y.toInt < sN sh b → CI sh ci ai1 → (∀ r, Rel sh rk r ci ai ci ai1) → P_X7_insertPlace_12 sh Q q n ci ai1 al x v y := by
    intro n
    induction n with
    | zero => intro v y ai1 hn; exact absurd hn (Nat.not_lt_zero _)
    | succ n ih =>
      intro v y ai1 hn y0 y1 c1 R1
      have fin : ∀ w : Int32, Q ci (va_up ai1 b (upd (ai1 b) y.toNatClampNeg w)) al := fun w => hK _ (c1.arr b2) (fun r => (R1 r).tr (Rel.arr b2))
      refine ⟨fun _ => ⟨fun e => absurd (hb.symm.trans e) (by simp), fun c hc => ?_⟩, fun hy => ⟨z, hz5, fun e => absurd (hb.symm.trans e) (by simp), fun c hc => ?_⟩⟩
      · obtain rfl := bb c hc
        exact ⟨⟨b1, b2⟩, vpT y0 y1, fin x⟩
      · obtain rfl := bb c hc
        have hd := decPos hy
        have hm : vp_in (y - 1) (sN sh c) := by rw [subOne]; exact vpT (dn2 hd.1 hd.2) (dn3 hd.1 y1)
        have d1 : (y + (-1)).toInt.toNat < n := dn1 hd.1 hd.2 hn
        have d2 : 0 ≤ (y + (-1)).toInt := dn2 hd.1 hd.2
        have d3 : (y + (-1)).toInt < sN sh c := dn3 hd.1 y1
        have nx : P_X7_insertPlace_12 sh Q q n ci (va_up ai1 c (upd (ai1 c) y.toNatClampNeg (ai1 c (y - 1).toNatClampNeg))) al x v (y + (-1)) := ih v _ _ d1 d2 d3 (c1.arr b2) (fun r => (R1 r).tr (Rel.arr b2))
        exact ⟨⟨b1, b2⟩, hm, hzl, ok_number30 hw hzl (fun r => ⟨fun _ => ⟨vpT y0 y1, fin x⟩, fun _ => ⟨hm, vpT y0 y1, nx⟩⟩)⟩
  exact ⟨⟨hq, h6⟩, z, hz5, hzl, ok_number30 hw hzl (fun r => ⟨_, key _ _ _ _ (Nat.lt_succ_self _) h0 h1 h (fun _ => Rel.rf)⟩)⟩
theorem ok_sortPlaces {b : Nat} (hw : Wf sh rk) (hL : Low sh rk (rk q) Gr Gw) (hq : q ∈ sL sh) (h6 : sK sh q = 6) (hb : sR sh q 6 = some b) (h : CI sh ci ai) (hK : Kt sh rk (rk q) ci ai Q) : P_X7_sortPlaces sh Gr Gw ci ai al q Q := by
  have hz : LZ sh q := LZ.of hq h6 (by decide)
  obtain ⟨z, hz5, hzl, hzr⟩ := hw.of hz (by omega) (by omega)
  obtain ⟨b1, b2, b3⟩ := (hw q hz).2.2.2.2.2.2.1 h6 b hb
  have key2 : ∀ (n : Nat) (x1 y : Int32) (ci1 ai1 : Nat → Nat → Int32) (al1 : Nat → Nat → Int64), (x1.toInt - y.toInt).toNat < n → 0 ≤ y.toInt → CI sh ci1 ai1 → Kt sh rk (rk q) ci1 ai1 Q → P_X7_sortPlaces_39 sh Gr Gw Q q n ci1 ai1 al1 x1 y := by
    intro n
    induction n with
    | zero => intro x1 y ci1 ai1 al1 hn; exact absurd hn (Nat.not_lt_zero _)
    | succ n ih =>
      intro x1 y ci1 ai1 al1 hn y0 c1 K1
      refine ⟨fun _ => K1 _ _ _ _ r8_1 c1 Rel.rf, fun hy => ⟨fun e => absurd (hb.symm.trans e) (by simp), fun c hc => ?_⟩⟩
      obtain rfl : c = b := Option.some.inj (hc.symm.trans hb)
      have hi := incLt hy
      refine ⟨⟨b1, b2⟩, fun _ => K1 _ _ _ _ r8_1 c1 Rel.rf, fun hl => ok_insertPlace hw hq h6 hb y0 ?_ c1 (fun ai' c' R' => ih _ _ _ _ _ ?_ ?_ c' (K1.to (R' _)))⟩
      · obtain ⟨j, hj, e, -⟩ := pk_mu (x := y) (L := sN sh c) (fun h => by have := Int32.lt_iff_toInt_lt.mp h; simp at this; omega) hl (by omega)
        rw [e, nI_toInt (by omega)]; omega
      · omega
      · omega
  have key : ∀ (n : Nat) (x1 y : Int32) (ci1 ai1 : Nat → Nat → Int32) (al1 : Nat → Nat → Int64), (x1.toInt - y.toInt).toNat < n → CI sh ci1 ai1 → Kt sh rk (rk q) ci1 ai1 Q → P_X7_sortPlaces_10 sh Gr Gw Q q n ci1 ai1 al1 x1 y := by
    intro n
    induction n with
    | zero => intro x1 y ci1 ai1 al1 hn; exact absurd hn (Nat.not_lt_zero _)
    | succ n ih =>
      intro x1 y ci1 ai1 al1 hn c1 K1
      refine ⟨fun _ => ⟨_, key2 _ _ _ _ _ _ (Nat.lt_succ_self _) (by decide) c1 K1⟩, fun hy => ⟨z, hz5, hzl, (hL z hzl hzr _ _ _ _ _ c1 (fun r5 c5 a5 l5 e1 e2 e3 => ⟨fun _ => ih _ _ _ _ _ ?_ e2 (K1.to e3), fun _ => K1 _ _ _ _ e1 e2 e3⟩)).2⟩⟩
      have := incLt hy
      omega
  exact ⟨⟨hq, h6⟩, z, hz5, hzl, ok_there hzl (fun r => ⟨_, key _ _ _ _ _ _ (Nat.lt_succ_self _) h hK⟩)⟩
theorem ok_seek10 (hw : Wf sh rk) (hL : Low sh rk (rk q) Gr Gw) (hq : q ∈ sL sh) (h9 : sK sh q = 9) (h : CI sh ci ai) (hK : Kt sh rk (rk q) ci ai Q) : P_X10_seek sh Gr Gw ci ai al q k Q := by
  have hz : LZ sh q := LZ.of hq h9 (by decide)
  obtain ⟨z, hz5, hzl, hzr⟩ := hw.of hz (by omega) (by omega)
  obtain ⟨b, hb, b1, b2, b3⟩ := (hw q hz).2.2.2.2.2.2.2.2.1 h9
  refine ⟨⟨hq, h9⟩, fun _ => hK _ _ _ _ r8_3 h Rel.rf, fun h0 => ⟨b, hb, ⟨b1, b2⟩, fun hl => ?_, fun _ => hK _ _ _ _ r8_3 h Rel.rf⟩⟩
  have hin : vp_in k (sN sh b) := vin' h0 hl b3
  have key : ∀ (n : Nat) (x : Int32) (ci1 ai1 : Nat → Nat → Int32) (al1 : Nat → Nat → Int64), (401 - x.toInt).toNat < n → CI sh ci1 ai1 → Kt sh rk (rk q) ci1 ai1 Q → P_X10_seek_34 sh Gr Gw Q q n ci1 ai1 al1 k x := by
    intro n
    induction n with
    | zero => intro x ci1 ai1 al1 hn; exact absurd hn (Nat.not_lt_zero _)
    | succ n ih =>
      intro x ci1 ai1 al1 hn c1 K1
      refine ⟨fun _ => K1 _ _ _ _ r8_3 c1 Rel.rf, fun hx => ⟨z, hz5, hzl, (hL z hzl hzr _ _ _ _ _ c1 (fun r5 c5 a5 l5 e1 e2 e3 => ⟨fun _ => ?_, fun _ => K1 _ _ _ _ e1 e2 e3⟩)).1⟩⟩
      refine (hL z hzl hzr _ _ _ _ _ e2 (fun r6 c6 a6 l6 f1 f2 f3 => ?_)).2
      have fin : ∃ q7 : Nat, sR sh q 8 = some q7 ∧ (q7 ∈ sL sh ∧ sK sh q7 = 20) ∧ vp_in k (sN sh q7) ∧ Q r6 c6 (va_up a6 q7 (upd (a6 q7) k.toNatClampNeg x)) l6 := ⟨b, hb, ⟨b1, b2⟩, hin, K1 _ _ _ _ f1 (f2.arr b2) ((e3.tr f3).tr (Rel.arr b2))⟩
      refine ⟨fun _ => fin, fun _ => ok_number30 hw hzl (fun r12 => ok_lets hw hq h9 ⟨fun _ => ih _ _ _ _ ?_ f2 ((K1.to e3).to f3), fun h => absurd rfl h⟩ ⟨fun h => absurd h (by decide), fun _ => fin⟩)⟩
      have := inc400 hx
      omega
  refine ⟨fun hne => ⟨?_, fun z6 _ => ⟨_, key _ _ _ _ _ (Nat.lt_succ_self _) h hK⟩⟩, fun _ => ⟨_, key _ _ _ _ _ (Nat.lt_succ_self _) h hK⟩⟩
  obtain ⟨j, hj, e⟩ := vp_in_of hin (by omega)
  subst e
  have hj0 : 0 < j := Nat.pos_of_ne_zero (fun e => hne (by rw [e]; rfl))
  rw [show (1 : Int32) = nI 1 from rfl, pk_sub (by omega)]
  exact vp_in_nI (by omega) (by omega)
theorem ok_seek (hw : Wf sh rk) (hL : Low sh rk (rk q) Gr Gw) (hq : LZ sh q) (h : CI sh ci ai) (hK : Kt sh rk (rk q) ci ai Q) : P_V_seek sh Gr Gw ci ai al q k Q := by
  have hof := fun h0 h3 => hw.of hq h0 h3
  have st : ∀ {y : Int32} {al' : Nat → Nat → Int64}, r8 y → Q y ci ai al' := fun hy => hK _ _ _ _ hy h Rel.rf
  refine ⟨fun e => ?_, fun e => ?_, fun e => ?_, fun e => ?_, fun e => ?_, fun e => ?_, fun e => ?_, fun e => ?_, fun e => ok_seek10 hw hL hq.1 e h hK⟩
  · refine ⟨⟨hq.1, e⟩, fun _ => st r8_1, fun z hz => ⟨fun _ => ?_, fun _ => st r8_1⟩⟩
    obtain ⟨z1, z2⟩ := hw.low hq (Or.inl ⟨rfl, Or.inl e⟩) hz
    exact ⟨z1, (hL z z1 z2 _ _ _ _ _ h hK).1⟩
  · obtain ⟨z, hz, z1, z2⟩ := hof (by omega) (by omega)
    refine ⟨⟨hq.1, e⟩, z, hz, z1, (hL z z1 z2 _ _ _ _ _ h (fun r5 c5 a5 l5 e1 e2 e3 => ⟨fun _ => hK _ _ _ _ e1 e2 e3, fun _ => ⟨fun _ => hK _ _ _ _ e1 e2 e3, fun y hy => ?_⟩⟩)).1⟩
    obtain ⟨y1, y2⟩ := hw.low hq (Or.inr ⟨rfl, Or.inl e⟩) hy
    exact ⟨y1, (hL y y1 y2 _ _ _ _ _ e2 (hK.to e3)).1⟩
  · obtain ⟨z, hz, z1, z2⟩ := hof (by omega) (by omega)
    refine ⟨⟨hq.1, e⟩, fun _ => ⟨z, hz, z1, (hL z z1 z2 _ _ _ _ _ h (fun r5 c5 a5 l5 e1 e2 e3 => ⟨fun _ => hK _ _ _ _ e1 e2 e3, fun _ => ⟨fun _ => ?_, fun _ => hK _ _ _ _ e1 e2 e3⟩⟩)).1⟩, fun _ => st r8_2⟩
    exact (hL z z1 z2 _ _ _ _ _ e2 (fun r6 c6 a6 l6 f1 f2 f3 => ⟨fun _ => ok_number30 hw z1 (fun r7 => ok_meets ⟨fun _ => hK _ _ _ _ r8_2 f2 (e3.tr f3), fun h => absurd rfl h⟩ ⟨fun h => absurd h (by decide), fun _ => hK _ _ _ _ r8_1 f2 (e3.tr f3)⟩), fun _ => hK _ _ _ _ f1 f2 (e3.tr f3)⟩)).2
  · obtain ⟨b, hb, b1, b2, b3⟩ := (hw q hq).2.2.2.2.2.1 e
    exact ⟨⟨hq.1, e⟩, b, hb, ⟨b1, b2⟩, fun _ => st (h.2.2.1 q hq.1 e), fun _ => st r8_1⟩
  · obtain ⟨z, hz, z1, z2⟩ := hof (by omega) (by omega)
    refine ⟨⟨hq.1, e⟩, z, hz, z1, (hL z z1 z2 _ _ _ _ _ h (fun r5 c5 a5 l5 e1 e2 e3 => ⟨fun _ => ⟨fun _ => ok_there z1 (fun r => ⟨fun _ => hK _ _ _ _ r8_1 e2 e3, fun _ => hK _ _ _ _ r8_6 e2 e3⟩), fun y hy => ok_there z1 (fun r => ?_)⟩, fun _ => hK _ _ _ _ e1 e2 e3⟩)).1⟩
    obtain ⟨y1, y2⟩ := hw.low hq (Or.inr ⟨rfl, Or.inr e⟩) hy
    exact ⟨y1, (hL y y1 y2 _ _ _ _ _ e2 (hK.to e3)).1⟩
  · obtain ⟨z, hz, z1, z2⟩ := hof (by omega) (by omega)
    refine ⟨⟨hq.1, e⟩, fun _ => ⟨z, hz, z1, ok_there z1 (fun r => ⟨fun _ => st r8_2, fun _ => st r8_1⟩)⟩, fun _ => ⟨z, hz, z1, z1, (hL z z1 z2 _ _ _ _ _ h (fun r5 c5 a5 l5 e1 e2 e3 => ⟨fun _ => ⟨fun _ => ok_there z1 (fun r => ⟨fun _ => hK _ _ _ _ r8_2 e2 e3, fun _ => hK _ _ _ _ r8_1 e2 e3⟩), fun b hb => ?_⟩, fun _ => hK _ _ _ _ e1 e2 e3⟩)).1⟩⟩
    exact ok_sortPlaces hw hL hq.1 e hb e2 (fun r6 c6 a6 l6 f1 f2 f3 => ⟨fun _ => ok_there z1 (fun r => ⟨fun _ => hK _ _ _ _ r8_2 f2 (e3.tr f3), fun _ => hK _ _ _ _ r8_1 f2 (e3.tr f3)⟩), fun _ => hK _ _ _ _ f1 f2 (e3.tr f3)⟩)
  · obtain ⟨z, hz, z1, z2⟩ := hof (by omega) (by omega)
    exact ⟨⟨hq.1, e⟩, fun _ => ⟨z, hz, z1, (hL z z1 z2 _ _ _ _ _ h hK).1⟩, fun _ => ⟨fun _ => ⟨z, hz, z1, (hL z z1 z2 _ _ _ _ _ h hK).1⟩, fun _ => ok_findStart hw hL hq.1 e h hK⟩⟩
  · obtain ⟨z, hz, z1, z2⟩ := hof (by omega) (by omega)
    obtain ⟨b, hb, b1, b2, b3⟩ := (hw q hq).2.2.2.2.2.2.2.1 e
    refine ⟨⟨hq.1, e⟩, fun hne => ⟨fun _ => st r8_3, fun h0 => ⟨b, hb, ⟨b1, b2⟩, fun hl => ?_, fun _ => st r8_3⟩⟩, fun _ => ⟨z, hz, z1, (hL z z1 z2 _ _ _ _ _ h hK).1⟩⟩
    have hin : vp_in k (sN sh b) := vin' h0 hl b3
    refine ⟨?_, ok_lookThrough hw hL hq.1 e h (fun r6 c6 a6 l6 f1 f2 f3 => ⟨hin, hK _ _ _ _ f1 (f2.arr b2) (f3.tr (Rel.arr b2))⟩)⟩
    obtain ⟨j, hj, ej⟩ := vp_in_of hin (by omega)
    subst ej
    have hj0 : 0 < j := Nat.pos_of_ne_zero (fun e => hne (by rw [e]; rfl))
    rw [show (1 : Int32) = nI 1 from rfl, pk_sub (by omega)]
    exact vp_in_nI (by omega) (by omega)
end CS2
end H52
section H53
section CW
variable {sh : Sh} {rk : Nat → Nat} {ci ai ci1 ai1 ci2 ai2 : Nat → Nat → Int32} {al : Nat → Nat → Int64} {q : Nat} {k x : Int32} {Gr Gw : GTy} {Q : Int32 → SCTy}
/-- what work of list q tells: Kt, and of a Chained that the item is marked unless it is OUT -/
abbrev KtW (sh : Sh) (rk : Nat → Nat) (q : Nat) (k : Int32) (ci ai : Nat → Nat → Int32) (Q : Int32 → SCTy) : Prop := ∀ (x : Int32) (ci' ai' : Nat → Nat → Int32) (al' : Nat → Nat → Int64), r8 x → CI sh ci' ai' → Rel sh rk (rk q) ci ai ci' ai' → (sK sh q = 0 → ∀ b, sR sh q 2 = some b → ∀ j, j < sN sh b → k = nI j → ¬ x = 3 → ¬ ai' b j = 0) → Q x ci' ai' al'
theorem Kt.w (hK : Kt sh rk (rk q) ci ai Q) : KtW sh rk q k ci ai Q := fun y c a l h1 h2 h3 _ => hK y c a l h1 h2 h3
theorem ok_isW0 {f : Nat} {Q : Int32 → Prop} (hw : Wf sh rk) (hq : LZ sh q) (h0 : sK sh q = 0) {b : Nat} (hb : sR sh q 2 = some b) {j : Nat} (hj : j < sN sh b) (hQ0 : ai b j = 0 → Q 0) (hQ1 : ¬ ai b j = 0 → Q 1) : P_X5_isWorked_f sh (f + 1) ci ai al q (nI j) Q := by
  obtain ⟨b2, hb2, b3, b4, b5⟩ := (hw q hq).2.2.1
  obtain rfl : b = b2 := Option.some.inj (hb.symm.trans hb2)
  have hlt : j < 2 ^ 31 := by omega
  refine ⟨hq, ⟨fun e => ⟨hq, ⟨fun _ => ⟨fun h => absurd h (nI_pos hlt), fun hk => ?_⟩, fun hne => absurd rfl hne⟩⟩, fun e => absurd (h0.symm.trans e) (by decide), fun e => absurd (h0.symm.trans e) (by decide), fun e => absurd (h0.symm.trans e) (by decide), fun e => absurd (h0.symm.trans e) (by decide), fun e => absurd (h0.symm.trans e) (by decide), fun e => absurd (h0.symm.trans e) (by decide), fun e => absurd (h0.symm.trans e) (by decide), fun e => absurd (h0.symm.trans e) (by decide)⟩⟩
  refine ⟨b, hb, ⟨b3, b4⟩, fun h => absurd h (nI_ge hj (by omega)), fun h => ⟨vp_in_nI hj (by omega), ?_⟩⟩
  rw [nI_clamp hlt]
  exact ⟨hQ0, hQ1⟩
theorem nIs {n : Nat} : nI n + 1 = nI (n + 1) := nI_1 n
theorem nIp {n : Nat} (h : 0 < n) : nI n + (-1) = nI (n - 1) := sb_m1 h
/-- the items ahead, worked from the lowest on -/
theorem ok_aheadB {b : Nat} (hw : Wf sh rk) (hq : LZ sh q) (h0 : sK sh q = 0) (hb : sR sh q 2 = some b) (hlen : sN sh b ≤ 400)
    (hS : ∀ (ci ai : Nat → Nat → Int32) (al : Nat → Nat → Int64) (j : Nat) (Q : Int32 → SCTy), j < sN sh b → (j = 0 ∨ ¬ ai b (j - 1) = 0 ∨ ¬ ai b j = 0) → CI sh ci ai → KtW sh rk q (nI j) ci ai Q → Gw ci ai al q (nI j) Q)
    {k0 : Nat} (hk : k0 < sN sh b) (h : CI sh ci ai) (hK : Kt sh rk (rk q) ci ai Q) : P_X0_workAhead sh Gr Gw ci ai al q (nI (k0 + 1)) Q := by
  have b21 : b ∈ sL sh ∧ sK sh b = 21 := by
    obtain ⟨b2, hb2, b3, b4, b5⟩ := (hw q hq).2.2.1
    obtain rfl : b = b2 := Option.some.inj (hb.symm.trans hb2)
    exact ⟨b3, b4⟩
  have key : ∀ (n : Nat) (x3 : Int32) (j : Nat) (ci1 ai1 : Nat → Nat → Int32) (al1 : Nat → Nat → Int64), k0 + 1 - j < n → j ≤ k0 + 1 → r8 x3 → (j ≤ k0 → ¬ x3 = 3 → (j = 0 ∨ ¬ ai1 b (j - 1) = 0 ∨ ¬ ai1 b j = 0)) → CI sh ci1 ai1 → Kt sh rk (rk q) ci1 ai1 Q → P_X0_workAhead_27 sh Gr Gw Q q n ci1 ai1 al1 (nI (k0 + 1)) x3 (nI j) := by
    intro n
    induction n with
    | zero => intro x3 j ci1 ai1 al1 hn; exact absurd hn (Nat.not_lt_zero _)
    | succ n ih =>
      intro x3 j ci1 ai1 al1 hn hj hx hc c1 K1
      refine ⟨fun _ => K1 _ _ _ _ hx c1 Rel.rf, fun hlt => ⟨fun _ => K1 _ _ _ _ hx c1 Rel.rf, fun h3 => ?_⟩⟩
      have hj2 : j ≤ k0 := by
        have : ¬ k0 + 1 ≤ j := fun h => hlt (nI_le h (by omega))
        omega
      refine hS _ _ _ j _ (by omega) (hc hj2 h3) c1 (fun y c a l e1 e2 e3 e4 => ?_)
      show P_X0_workAhead_27 sh Gr Gw Q q n c a l (nI (k0 + 1)) y (nI j + 1)
      rw [nIs]
      exact ih _ (j + 1) _ _ _ (by omega) (by omega) e1 (fun _ hy => Or.inr (Or.inl (by rw [Nat.add_sub_cancel]; exact e4 h0 b hb j (by omega) rfl hy))) e2 (K1.to e3)
  have key4 : ∀ (n f : Nat), f < n → f ≤ k0 → P_X0_workAhead_4 sh Gr Gw Q q n ci ai al (nI (k0 + 1)) (nI f) := by
    intro n
    induction n with
    | zero => intro f hn; exact absurd hn (Nat.not_lt_zero _)
    | succ n ih =>
      intro f hn hf
      refine ⟨fun hle => ⟨_, key _ _ f _ _ _ (Nat.lt_succ_self _) (by omega) r8_1 (fun _ _ => Or.inl ?_) h hK⟩, fun hgt => ok_isW0 hw hq h0 hb (by omega) (fun hz => ⟨fun hne => absurd rfl hne, fun _ => ?_⟩) (fun hz => ⟨fun _ => ⟨_, key _ _ f _ _ _ (Nat.lt_succ_self _) (by omega) r8_1 (fun _ _ => Or.inr (Or.inr hz)) h hK⟩, fun he => absurd he (by decide)⟩)⟩
      · rcases Nat.eq_zero_or_pos f with e | e
        · exact e
        · exact absurd hle (nI_nle e (by omega))
      · have hp : 0 < f := Nat.pos_of_ne_zero (fun e => hgt (by rw [e]; decide))
        show P_X0_workAhead_4 sh Gr Gw Q q n ci ai al (nI (k0 + 1)) (nI f + (-1))
        rw [nIp hp]
        exact ih (f - 1) (by omega) (by omega)
  refine ⟨⟨hq.1, h0⟩, k0 + 1, ?_⟩
  rw [show (1 : Int32) = nI 1 from rfl, pk_sub (by omega), Nat.add_sub_cancel]
  exact key4 _ k0 (by omega) (Nat.le_refl _)
/-- where the item ahead is marked: it is found so -/
theorem ok_aheadC {b : Nat} (hw : Wf sh rk) (hq : LZ sh q) (h0 : sK sh q = 0) (hb : sR sh q 2 = some b) (hlen : sN sh b ≤ 400)
    (hS : ∀ (ci ai : Nat → Nat → Int32) (al : Nat → Nat → Int64) (j : Nat) (Q : Int32 → SCTy), j < sN sh b → ¬ ai b j = 0 → CI sh ci ai → KtW sh rk q (nI j) ci ai Q → Gw ci ai al q (nI j) Q)
    {k0 : Nat} (hk : k0 < sN sh b) (hm : ¬ ai b k0 = 0) (h : CI sh ci ai) (hK : Kt sh rk (rk q) ci ai Q) : P_X0_workAhead sh Gr Gw ci ai al q (nI (k0 + 1)) Q := by
  have key : P_X0_workAhead_27 sh Gr Gw Q q 2 ci ai al (nI (k0 + 1)) 1 (nI k0) := by
    refine ⟨fun hle => absurd hle (nI_ge (by omega) (by omega)), fun _ => ⟨fun h => absurd h (by decide), fun _ => ?_⟩⟩
    refine hS _ _ _ k0 _ hk hm h (fun y c a l e1 e2 e3 e4 => ?_)
    show P_X0_workAhead_27 sh Gr Gw Q q 1 c a l (nI (k0 + 1)) y (nI k0 + 1)
    rw [nIs]
    exact ⟨fun _ => hK _ _ _ _ e1 e2 e3, fun hlt => absurd (nI_le (Nat.le_refl _) (by omega)) hlt⟩
  refine ⟨⟨hq.1, h0⟩, 1, ?_⟩
  rw [show (1 : Int32) = nI 1 from rfl, pk_sub (by omega), Nat.add_sub_cancel]
  exact ⟨fun _ => ⟨2, key⟩, fun _ => ok_isW0 hw hq h0 hb hk (fun hz => absurd hz hm) (fun _ => ⟨fun _ => ⟨2, key⟩, fun he => absurd he (by decide)⟩)⟩
theorem ok_form0 (hw : Wf sh rk) (hL : Low sh rk (rk q) Gr Gw) (hq : LZ sh q) (h0 : sK sh q = 0) {k0 : Nat} (hk : k0 < 400)
    (hA : ∀ (Q : Int32 → SCTy), 0 < k0 → Kt sh rk (rk q) ci ai Q → P_X0_workAhead sh Gr Gw ci ai al q (nI k0) Q) (h : CI sh ci ai) (hK : Kt sh rk (rk q) ci ai Q) : P_X0_form sh Gr Gw ci ai al q (nI k0) Q := by
  refine ⟨⟨hq.1, h0⟩, fun hne => ⟨fun _ => ⟨fun _ => ok_tellOp hw hq (fun y l hy => hK _ _ _ _ hy h Rel.rf), fun z hz => ?_⟩, fun _ => ?_⟩, fun _ => ok_tell hw hq (fun y l hy => hK _ _ _ _ hy h Rel.rf)⟩
  · obtain ⟨z1, z2⟩ := hw.low hq (Or.inl ⟨rfl, Or.inl h0⟩) hz
    exact ⟨z1, (hL z z1 z2 _ _ _ _ _ h (fun r6 c6 a6 l6 e1 e2 e3 => ⟨fun _ => ok_number30 hw z1 (fun r7 => ok_tellOp hw hq (fun y l hy => hK _ _ _ _ hy e2 e3)), fun _ => hK _ _ _ _ e1 e2 e3⟩)).2⟩
  · have hp : 0 < k0 := Nat.pos_of_ne_zero (fun e => hne (by rw [e]; rfl))
    refine hA _ hp (fun r9 c9 a9 l9 e1 e2 e3 => ⟨fun _ => ok_number30 hw hq (fun r10 => ⟨fun _ => ok_tellOp hw hq (fun y l hy => hK _ _ _ _ hy e2 e3), fun _ => ⟨fun _ => ok_tellOp hw hq (fun y l hy => hK _ _ _ _ hy e2 e3), fun z hz => ?_⟩⟩), fun _ => hK _ _ _ _ e1 e2 e3⟩)
    obtain ⟨z1, z2⟩ := hw.low hq (Or.inl ⟨rfl, Or.inl h0⟩) hz
    exact ⟨z1, (hL z z1 z2 _ _ _ _ _ e2 (fun r6 c6 a6 l6 f1 f2 f3 => ⟨fun _ => ok_number30 hw z1 (fun r7 => ok_tellOp hw hq (fun y l hy => hK _ _ _ _ hy f2 (e3.tr f3))), fun _ => hK _ _ _ _ f1 f2 (e3.tr f3)⟩)).2⟩
theorem ok_form (hw : Wf sh rk) (hL : Low sh rk (rk q) Gr Gw) (hq : LZ sh q) (hf0 : sK sh q = 0 → P_X0_form sh Gr Gw ci ai al q k Q) (h : CI sh ci ai) (hK : Kt sh rk (rk q) ci ai Q) : P_V_form sh Gr Gw ci ai al q k Q := by
  have hof := fun h0 h3 => hw.of hq h0 h3
  have st : ∀ {y : Int32} {al' : Nat → Nat → Int64}, r8 y → Q y ci ai al' := fun hy => hK _ _ _ _ hy h Rel.rf
  refine ⟨hf0, fun e => ?_, fun e => ⟨hq, st r8_3⟩, fun e => ?_, fun e => ⟨hq, st r8_3⟩, fun e => ⟨hq, st r8_3⟩, fun e => ⟨hq, st r8_3⟩, fun e => ?_, fun e => ⟨hq, st r8_3⟩⟩
  · obtain ⟨z, hz, z1, z2⟩ := hof (by omega) (by omega)
    refine ⟨⟨hq.1, e⟩, fun _ => ⟨fun _ => ok_tellOp hw hq (fun y l hy => st hy), fun y hy => ?_⟩, fun _ => ⟨z, hz, z1, (hL z z1 z2 _ _ _ _ _ h (fun r6 c6 a6 l6 e1 e2 e3 => ⟨fun _ => ok_number30 hw z1 (fun r7 => ⟨fun _ => ok_tellOp hw hq (fun y l hy => hK _ _ _ _ hy e2 e3), fun _ => ⟨fun _ => ok_tellOp hw hq (fun y l hy => hK _ _ _ _ hy e2 e3), fun y hy => ?_⟩⟩), fun _ => hK _ _ _ _ e1 e2 e3⟩)).2⟩⟩
    · obtain ⟨y1, y2⟩ := hw.low hq (Or.inr ⟨rfl, Or.inl e⟩) hy
      exact ⟨y1, (hL y y1 y2 _ _ _ _ _ h (fun r6 c6 a6 l6 e1 e2 e3 => ⟨fun _ => ok_number30 hw y1 (fun r7 => ok_tellOp hw hq (fun y l hy => hK _ _ _ _ hy e2 e3)), fun _ => hK _ _ _ _ e1 e2 e3⟩)).2⟩
    · obtain ⟨y1, y2⟩ := hw.low hq (Or.inr ⟨rfl, Or.inl e⟩) hy
      exact ⟨y1, (hL y y1 y2 _ _ _ _ _ e2 (fun r6 c6 a6 l6 f1 f2 f3 => ⟨fun _ => ok_number30 hw y1 (fun r7 => ok_tellOp hw hq (fun y l hy => hK _ _ _ _ hy f2 (e3.tr f3))), fun _ => hK _ _ _ _ f1 f2 (e3.tr f3)⟩)).2⟩
  · obtain ⟨b, hb, b1, b2, b3⟩ := (hw q hq).2.2.2.2.2.1 e
    refine ⟨⟨hq.1, e⟩, fun _ => st r8_3, fun hn => ⟨b, hb, ⟨b1, b2⟩, fun _ => st r8_3, fun hl => ⟨vin hn hl b3, st ?_⟩⟩⟩
    obtain ⟨j, hj, ej, -⟩ := pk_mu hn hl (show sN sh b < 2 ^ 31 by omega)
    rw [ej, nI_clamp (by omega)]
    exact (h.1 b b1 b2 j).r8 (h.2.1 q hq.1 e b hb b2 j hj)
  · obtain ⟨b, hb, b1, b2, b3⟩ := (hw q hq).2.2.2.2.2.2.2.1 e
    refine ⟨⟨hq.1, e⟩, fun _ => st r8_3, fun hn => ⟨b, hb, ⟨b1, b2⟩, fun hl => ?_, fun _ => st r8_3⟩⟩
    have hin : vp_in k (sN sh b) := vin' hn hl b3
    refine ⟨hin, ok_lookThrough hw hL hq.1 e h (fun r6 c6 a6 l6 f1 f2 f3 => ⟨fun _ => ⟨hin, ok_tell hw hq (fun y l hy => hK _ _ _ _ hy f2 f3)⟩, fun _ => ⟨fun _ => hK _ _ _ _ f1 f2 f3, fun _ => ⟨hin, ok_tell hw hq (fun y l hy => hK _ _ _ _ hy f2 f3)⟩⟩⟩)⟩
end CW
end H53
section H54
section CM
variable {sh : Sh} {rk : Nat → Nat} {ci ai ci1 ai1 ci2 ai2 : Nat → Nat → Int32} {al : Nat → Nat → Int64} {q r : Nat} {k x : Int32} {Gr Gw : GTy} {Q : Int32 → SCTy}
theorem nI_inj {a b : Nat} (ha : a < 2 ^ 31) (hb : b < 2 ^ 31) (h : nI a = nI b) : a = b := by
  have := congrArg Int32.toNatClampNeg h
  rwa [nI_clamp ha, nI_clamp hb] at this
theorem up_same {f : Nat → Nat → Int32} {q k : Nat} {x : Int32} : va_up f q (va_up (f q) k x) q k = x := by
  simp only [va_up, if_true]
theorem CI.met (h : CI sh ci ai) {m : Nat} (hm : m ≤ 400) : CI sh (va_up ci q (va_up (ci q) 3 (nI m))) ai := by
  refine ⟨h.1, h.2.1, fun z hz hk => ?_, fun z hz => ?_⟩
  · rw [up2 (fun e => absurd e.2 (by decide))]; exact h.2.2.1 z hz hk
  · obtain ⟨m1, c, h1, h2, h3, h4, h5⟩ := h.2.2.2 z hz
    by_cases e : z = q
    · subst e
      refine ⟨m, c, up_same, ?_, h3, by omega, fun _ => hm⟩
      rw [up2 (fun e => absurd e.2 (by decide))]; exact h2
    · refine ⟨m1, c, ?_, ?_, h3, h4, h5⟩
      · rw [up2 (fun e2 => e e2.1)]; exact h1
      · rw [up2 (fun e2 => e e2.1)]; exact h2
theorem CI.close (h : CI sh ci ai) (hx : r8 x) : CI sh (va_up ci q (va_up (ci q) 4 x)) ai := by
  obtain ⟨n, n1, n2, rfl⟩ := hx
  refine ⟨h.1, h.2.1, fun z hz hk => ?_, fun z hz => ?_⟩
  · rw [up2 (fun e => absurd e.2 (by decide))]; exact h.2.2.1 z hz hk
  · obtain ⟨m1, c, h1, h2, h3, h4, h5⟩ := h.2.2.2 z hz
    by_cases e : z = q
    · subst e
      refine ⟨m1, n, ?_, up_same, n2, h4, fun h0 => by omega⟩
      rw [up2 (fun e => absurd e.2 (by decide))]; exact h1
    · refine ⟨m1, c, ?_, ?_, h3, h4, h5⟩
      · rw [up2 (fun e2 => e e2.1)]; exact h1
      · rw [up2 (fun e2 => e e2.1)]; exact h2
theorem Rel.own {j : Nat} (hq : LZ sh q) : Rel sh rk (rk q + 1) ci ai (va_up ci q (va_up (ci q) j x)) ai := by
  refine ⟨fun _ _ _ _ h => h, fun z hz hr => ?_, fun z hz => ?_⟩
  · have e : ¬ z = q := fun e => by rw [e] at hr; omega
    exact ⟨up2 (fun e2 => e e2.1), up2 (fun e2 => e e2.1)⟩
  · refine va_up_ne _ _ (fun e => ?_)
    have := hq.2
    rw [← e, hz] at this
    exact absurd this (by decide)
theorem ok_reach (hw : Wf sh rk) (hL : Low sh rk (rk q) Gr Gw) (hq : LZ sh q) (h : CI sh ci ai) (hK : Kt sh rk (rk q + 1) ci ai Q) : P_X5_reach sh Gr Gw ci ai al q k Q := by
  obtain ⟨b, hb, b1, b2⟩ := (hw q hq).1
  have fin : ∀ (c1 a1 : Nat → Nat → Int32) (l1 : Nat → Nat → Int64), CI sh c1 a1 → Kt sh rk (rk q + 1) c1 a1 Q → (c1 q 4 = 0 → ¬ c1 q 3 ≤ k) → P_X5_there sh c1 a1 l1 q (fun r1 => ((r1 ≤ k) → (Q (c1 q 4) c1 a1 l1)) ∧ ((¬ r1 ≤ k) → (Q 1 c1 a1 l1))) := by
    intro c1 a1 l1 d1 K1 hc
    obtain ⟨m, c, e1, e2, e3, e4, e5⟩ := d1.2.2.2 q hq
    refine ⟨hq, fun hne => ⟨fun _ => K1 _ _ _ _ ?_ d1 Rel.rf, fun _ => K1 _ _ _ _ r8_1 d1 Rel.rf⟩, fun he => ⟨fun hle => absurd hle (hc he), fun _ => K1 _ _ _ _ r8_1 d1 Rel.rf⟩⟩
    exact m8.r8 ⟨c, e3, e2⟩ hne
  have key : ∀ (n m : Nat) (x2 : Int32) (c1 a1 : Nat → Nat → Int32) (l1 : Nat → Nat → Int64), 401 - m < n → m ≤ 401 → (x2 = k ∨ x2 = 400) → CI sh c1 a1 → c1 q 3 = nI m → Kt sh rk (rk q + 1) c1 a1 Q → P_X5_reach_13 sh Gr Gw Q q n c1 a1 l1 k x2 (nI m) := by
    intro n
    induction n with
    | zero => intro m x2 c1 a1 l1 hn; exact absurd hn (Nat.not_lt_zero _)
    | succ n ih =>
      intro m x2 c1 a1 l1 hn hm hx2 d1 em K1
      refine ⟨fun hlt => fin _ _ _ d1 K1 (fun h0 => ?_), fun hge => ⟨fun hne => fin _ _ _ d1 K1 (fun h0 => absurd h0 hne), fun h0 => ⟨fun h400 => ?_, fun _ => K1 _ _ _ _ r8_3 d1 Rel.rf⟩⟩⟩
      · obtain ⟨m2, c, e1, e2, e3, e4, e5⟩ := d1.2.2.2 q hq
        have hc : c = 0 := nI_inj (by omega) (by omega) (e2.symm.trans h0)
        have hmm : m2 = m := nI_inj (by omega) (by omega) (e1.symm.trans em)
        have hm4 := e5 hc
        rw [em]
        rcases hx2 with rfl | rfl
        · exact Int32.not_le.mpr hlt
        · exact absurd hlt (Int32.not_lt.mpr (nI_le (a := m) (b := 400) (by omega) (by omega)))
      · have hm4 : m ≤ 399 := by
          obtain ⟨m2, c, e1, e2, e3, e4, e5⟩ := d1.2.2.2 q hq
          have hc : c = 0 := nI_inj (by omega) (by omega) (e2.symm.trans h0)
          have hmm : m2 = m := nI_inj (by omega) (by omega) (e1.symm.trans em)
          have : m ≠ 400 := fun e => h400 (by rw [e]; rfl)
          have := e5 hc
          omega
        refine ok_seek hw hL hq d1 (fun r3 c3 a3 l3 e1 e2 e3 => ⟨fun _ => K1 _ _ _ _ r8_3 e2 (e3.up (Nat.le_succ _)), fun hr3 => ⟨b, hb, ⟨b1, b2⟩, ok_spend (rk := rk) e2 b1 b2 (fun y c8 hy f2 f3 => ⟨fun _ => ⟨fun _ => ?_, fun _ => ?_⟩, fun _ => K1 _ _ _ _ r8_3 f2 ((e3.up (Nat.le_succ _)).tr (f3.up (Nat.zero_le _)))⟩)⟩⟩)
        · rw [nIs]
          exact ih (m + 1) x2 _ _ _ (by omega) (by omega) hx2 (f2.met (by omega)) up_same (K1.to (((e3.up (Nat.le_succ _)).tr (f3.up (Nat.zero_le _))).tr (Rel.own hq)))
        · rw [nIs]
          refine ih (m + 1) x2 _ _ _ (by omega) (by omega) hx2 ((f2.met (by omega)).close e1) ?_ (K1.to ((((e3.up (Nat.le_succ _)).tr (f3.up (Nat.zero_le _))).tr (Rel.own hq)).tr (Rel.own hq)))
          rw [up2 (fun e => absurd e.2 (by decide))]; exact up_same
  obtain ⟨m, c, e1, e2, e3, e4, e5⟩ := h.2.2.2 q hq
  have hgo : ∀ x2, (x2 = k ∨ x2 = 400) → ∃ n9 : Nat, P_X5_reach_13 sh Gr Gw Q q n9 ci ai al k x2 (ci q 3) := by
    intro x2 hx2
    rw [e1]
    exact ⟨_, key _ m x2 _ _ _ (Nat.lt_succ_self _) e4 hx2 h e1 hK⟩
  exact ⟨hq, fun _ => hgo _ (Or.inr rfl), fun _ => hgo _ (Or.inl rfl)⟩
theorem ok_work (hw : Wf sh rk) (hL : Low sh rk (rk q) Gr Gw) (hq : LZ sh q)
    (hA : sK sh q = 0 → ∀ b, sR sh q 2 = some b → ∀ j, j < sN sh b → k = nI j → 0 < j → ai b j = 0 → ∀ Q, Kt sh rk (rk q) ci ai Q → P_X0_workAhead sh Gr Gw ci ai al q (nI j) Q)
    (h : CI sh ci ai) (hK : KtW sh rk q k ci ai Q) : P_X5_work sh Gr Gw ci ai al q k Q := by
  obtain ⟨b, hb, b1, b2, b3⟩ := (hw q hq).2.2.1
  obtain ⟨t, ht, t1, t2⟩ := (hw q hq).1
  have st : ∀ {al' : Nat → Nat → Int64} {c a : Nat → Nat → Int32}, CI sh c a → Rel sh rk (rk q) ci ai c a → Q 3 c a al' := fun h1 h2 => hK _ _ _ _ r8_3 h1 h2 (fun _ _ _ _ _ _ h => absurd rfl h)
  have own : (((k < 0) → (Q 3 ci ai al)) ∧ ((¬ k < 0) → (∃ q2 : Nat, sR sh q 2 = some q2 ∧ (q2 ∈ sL sh ∧ sK sh q2 = 21) ∧ ((k < (nI (sN sh q2))) → (vp_in k (sN sh q2) ∧ ((¬ (ai q2 k.toNatClampNeg) = 0) → (vp_in k (sN sh q2) ∧ Q (ai q2 k.toNatClampNeg) ci ai al)) ∧ (((ai q2 k.toNatClampNeg) = 0) → (P_V_form sh Gr Gw ci ai al q k (fun r8 ci8 ai8 al8 => ((r8 = 3) → (Q 3 ci8 ai8 al8)) ∧ ((¬ r8 = 3) → (∃ q9 : Nat, sR sh q 0 = some q9 ∧ (q9 ∈ sL sh ∧ sK sh q9 = 5) ∧ P_X6_spend sh ci8 ai8 al8 q9  (fun r13 ci13 ai13 al13 => ((¬ r13 = 0) → (vp_in k (sN sh q2) ∧ vp_in k (sN sh q2) ∧ Q ((va_up ai13 q2 (upd (ai13 q2) k.toNatClampNeg (vp_nar .byte r8.toInt8.toInt32))) q2 k.toNatClampNeg) ci13 (va_up ai13 q2 (upd (ai13 q2) k.toNatClampNeg (vp_nar .byte r8.toInt8.toInt32))) al13)) ∧ ((r13 = 0) → (Q 3 ci13 ai13 al13)))))))))) ∧ ((¬ k < (nI (sN sh q2))) → (Q 3 ci ai al))))) := by
    refine ⟨fun _ => st h Rel.rf, fun h0 => ⟨b, hb, ⟨b1, b2⟩, fun hlt => ?_, fun _ => st h Rel.rf⟩⟩
    obtain ⟨j, hj, ej, -⟩ := pk_mu h0 (Int32.not_le.mpr hlt) (show sN sh b < 2 ^ 31 by omega)
    subst ej
    have hv : vp_in (nI j) (sN sh b) := vp_in_nI hj (by omega)
    rw [nI_clamp (by omega : j < 2 ^ 31)]
    have hone : ∀ b', sR sh q 2 = some b' → b' = b := fun b' e => Option.some.inj (e.symm.trans hb)
    refine ⟨hv, fun hne => ⟨hv, hK _ _ _ _ ((h.1 b b1 b2 j).r8 hne) h Rel.rf (fun _ b' e j' hj' ej' _ => ?_)⟩, fun hz => ?_⟩
    · rw [hone b' e, ← nI_inj (by omega) (by rw [hone b' e] at hj'; omega) ej']; exact hne
    · have hKf : Kt sh rk (rk q) ci ai (fun r8 ci8 ai8 al8 => ((r8 = 3) → (Q 3 ci8 ai8 al8)) ∧ ((¬ r8 = 3) → (∃ q9 : Nat, sR sh q 0 = some q9 ∧ (q9 ∈ sL sh ∧ sK sh q9 = 5) ∧ P_X6_spend sh ci8 ai8 al8 q9  (fun r13 ci13 ai13 al13 => ((¬ r13 = 0) → (vp_in (nI j) (sN sh b) ∧ vp_in (nI j) (sN sh b) ∧ Q ((va_up ai13 b (upd (ai13 b) j (vp_nar .byte r8.toInt8.toInt32))) b j) ci13 (va_up ai13 b (upd (ai13 b) j (vp_nar .byte r8.toInt8.toInt32))) al13)) ∧ ((r13 = 0) → (Q 3 ci13 ai13 al13)))))) := by
        intro y c8 a8 l8 e1 e2 e3
        refine ⟨fun _ => st e2 e3, fun _ => ⟨t, ht, ⟨t1, t2⟩, ok_spend (rk := rk) e2 t1 t2 (fun y2 c9 hy f2 f3 => ⟨fun _ => ⟨hv, hv, ?_⟩, fun _ => st f2 (e3.tr (f3.up (Nat.zero_le _)))⟩)⟩⟩
        rw [e1.nar]
        refine hK _ _ _ _ ?_ (f2.mark e1) ((e3.tr (f3.up (Nat.zero_le _))).tr (Rel.mark e1)) (fun _ b' e j' hj' ej' _ => ?_)
        · rw [upd2, if_pos ⟨rfl, rfl⟩]; exact e1
        · rw [hone b' e, ← nI_inj (by omega) (by rw [hone b' e] at hj'; omega) ej', upd2, if_pos ⟨rfl, rfl⟩]; exact e1.ne
      exact ok_form hw hL hq (fun e0 => ok_form0 hw hL hq e0 (by omega) (fun Q' hp K' => hA e0 b hb j hj rfl hp hz Q' K') h hKf) h hKf
  by_cases e0 : sK sh q = 0
  · exact ⟨hq, ⟨fun e => ⟨hq, fun _ => own, fun hne => absurd rfl hne⟩, fun e => absurd (e0.symm.trans e) (by decide), fun e => absurd (e0.symm.trans e) (by decide), fun e => absurd (e0.symm.trans e) (by decide), fun e => absurd (e0.symm.trans e) (by decide), fun e => absurd (e0.symm.trans e) (by decide), fun e => absurd (e0.symm.trans e) (by decide), fun e => absurd (e0.symm.trans e) (by decide), fun e => absurd (e0.symm.trans e) (by decide)⟩⟩
  · refine ⟨hq, ok_source hw hq (fun z hz => ⟨fun _ => own, fun hne => ok_place hw hq (fun r => ?_)⟩)⟩
    rcases hz with ⟨e, -⟩ | ⟨z1, z2⟩
    · exact absurd (by rw [e]) hne
    · exact ⟨z1, (hL z z1 z2 _ _ _ _ _ h (fun y c a l f1 f2 f3 => hK _ _ _ _ f1 f2 f3 (fun e => absurd e e0))).2⟩
/-- with fuel 3 for each rank, reach and work of a list end, and keep what is kept -/
theorem ok_PG (hw : Wf sh rk) : ∀ (r z : Nat), LZ sh z → rk z = r → ∀ d, 3 * r + 3 ≤ d →
    (∀ (ci ai : Nat → Nat → Int32) (al : Nat → Nat → Int64) (k : Int32) (Q : Int32 → SCTy), CI sh ci ai → Kt sh rk (rk z + 1) ci ai Q → (PG sh d).1 ci ai al z k Q) ∧
    (∀ (ci ai : Nat → Nat → Int32) (al : Nat → Nat → Int64) (k : Int32) (Q : Int32 → SCTy), CI sh ci ai → KtW sh rk z k ci ai Q → (PG sh d).2 ci ai al z k Q) := by
  intro r
  induction r using Nat.strongRecOn with
  | ind r ih =>
    intro z hz hr
    have low : ∀ d, 3 * r ≤ d → Low sh rk (rk z) (PG sh d).1 (PG sh d).2 := by
      intro d hd y hy hyr ci ai al k Q h hK
      have hi := ih (rk y) (by omega) y hy rfl d (by omega)
      exact ⟨hi.1 _ _ _ _ _ h (fun x c a l e1 e2 e3 => hK _ _ _ _ e1 e2 (e3.up hyr)), hi.2 _ _ _ _ _ h (fun x c a l e1 e2 e3 _ => hK _ _ _ _ e1 e2 (e3.up (Nat.le_of_lt hyr)))⟩
    obtain ⟨b, hb, b1, b2, b3⟩ := (hw z hz).2.2.1
    have hone : ∀ b', sR sh z 2 = some b' → b' = b := fun b' e => Option.some.inj (e.symm.trans hb)
    have w1 : ∀ d, 3 * r + 1 ≤ d → ∀ (ci ai : Nat → Nat → Int32) (al : Nat → Nat → Int64) (j : Nat) (Q : Int32 → SCTy), j < sN sh b → ¬ ai b j = 0 → CI sh ci ai → KtW sh rk z (nI j) ci ai Q → (PG sh d).2 ci ai al z (nI j) Q := by
      intro d hd ci ai al j Q hj hm h hK
      obtain ⟨d, rfl⟩ : ∃ d', d = d' + 1 := ⟨d - 1, by omega⟩
      refine ok_work hw (low d (by omega)) hz (fun _ b' e j' hj' ej _ h0 => ?_) h hK
      rw [hone b' e, ← nI_inj (by omega) (by rw [hone b' e] at hj'; omega) ej] at h0
      exact absurd h0 hm
    have w2 : sK sh z = 0 → ∀ d, 3 * r + 2 ≤ d → ∀ (ci ai : Nat → Nat → Int32) (al : Nat → Nat → Int64) (j : Nat) (Q : Int32 → SCTy), j < sN sh b → (j = 0 ∨ ¬ ai b (j - 1) = 0 ∨ ¬ ai b j = 0) → CI sh ci ai → KtW sh rk z (nI j) ci ai Q → (PG sh d).2 ci ai al z (nI j) Q := by
      intro e0 d hd ci ai al j Q hj hm h hK
      obtain ⟨d, rfl⟩ : ∃ d', d = d' + 1 := ⟨d - 1, by omega⟩
      refine ok_work hw (low d (by omega)) hz (fun _ b' e j' hj' ej hp h0 Q' K' => ?_) h hK
      have ejj : j = j' := nI_inj (by omega) (by rw [hone b' e] at hj'; omega) ej
      subst ejj
      rw [hone b' e] at h0
      obtain ⟨i, rfl⟩ : ∃ i, j = i + 1 := ⟨j - 1, by omega⟩
      have hm' : ¬ ai b i = 0 := by
        rcases hm with hm | hm | hm
        · omega
        · exact hm
        · exact absurd h0 hm
      exact ok_aheadC hw hz e0 hb b3 (w1 d (by omega)) (by omega) hm' h K'
    intro d hd
    obtain ⟨d, rfl⟩ : ∃ d', d = d' + 1 := ⟨d - 1, by omega⟩
    refine ⟨fun ci ai al k Q h hK => ok_reach hw (low d (by omega)) hz h hK, fun ci ai al k Q h hK => ok_work hw (low d (by omega)) hz (fun e0 b' e j' hj' ej hp h0 Q' K' => ?_) h hK⟩
    rw [hone b' e] at hj'
    obtain ⟨i, rfl⟩ : ∃ i, j' = i + 1 := ⟨j' - 1, by omega⟩
    exact ok_aheadB hw hz e0 hb b3 (w2 e0 d (by omega)) (by omega) h K'
theorem ok_R (hw : Wf sh rk) (hq : LZ sh q) (h : CI sh ci ai) (hK : Kt sh rk 24 ci ai Q) : (PG sh 100).1 ci ai al q k Q := by
  have hr := (hw q hq).2.2.2.2.2.2.2.2.2
  exact (ok_PG hw _ q hq rfl 100 (by omega)).1 _ _ _ _ _ h (fun x c a l e1 e2 e3 => hK _ _ _ _ e1 e2 (e3.up hr))
theorem ok_W (hw : Wf sh rk) (hq : LZ sh q) (h : CI sh ci ai) (hK : Kt sh rk 24 ci ai Q) : (PG sh 100).2 ci ai al q k Q := by
  have hr := (hw q hq).2.2.2.2.2.2.2.2.2
  exact (ok_PG hw _ q hq rfl 100 (by omega)).2 _ _ _ _ _ h (fun x c a l e1 e2 e3 _ => hK _ _ _ _ e1 e2 (e3.up (Nat.le_of_lt hr)))
end CM
end H54
