/-- a list of the class -/
def LZ (sh : Sh) (q : Nat) : Prop := q ∈ sL sh ∧ isZ (sK sh q)
/-- which fields of a list point at lists -/
def lref (K k : Nat) : Prop := (k = 5 ∧ (K = 0 ∨ K = 1 ∨ K = 2 ∨ K = 4 ∨ K = 6 ∨ K = 7 ∨ K = 8 ∨ K = 9)) ∨ (k = 6 ∧ (K = 1 ∨ K = 4))
/-- the shape: every list's rows and lists are there, and its lists lie below it -/
def Wf (sh : Sh) (rk : Nat → Nat) : Prop := ∀ q, LZ sh q →
  (∃ b, sR sh q 0 = some b ∧ b ∈ sL sh ∧ sK sh b = 5) ∧
  (∃ b, sR sh q 1 = some b ∧ b ∈ sL sh ∧ sK sh b = 22 ∧ sN sh b ≤ 400) ∧
  (∃ b, sR sh q 2 = some b ∧ b ∈ sL sh ∧ sK sh b = 21 ∧ sN sh b ≤ 400) ∧
  (∀ k, lref (sK sh q) k → ∀ z, sR sh q k = some z → LZ sh z ∧ rk z < rk q) ∧
  (¬ sK sh q = 0 → ¬ sK sh q = 3 → ∃ z, sR sh q 5 = some z) ∧
  (sK sh q = 3 → ∃ b, sR sh q 5 = some b ∧ b ∈ sL sh ∧ sK sh b = 21 ∧ sN sh b ≤ 400) ∧
  (sK sh q = 6 → ∀ b, sR sh q 6 = some b → b ∈ sL sh ∧ sK sh b = 20 ∧ sN sh b ≤ 400) ∧
  (sK sh q = 8 → ∃ b, sR sh q 6 = some b ∧ b ∈ sL sh ∧ sK sh b = 20 ∧ sN sh b ≤ 400) ∧
  (sK sh q = 9 → ∃ b, sR sh q 8 = some b ∧ b ∈ sL sh ∧ sK sh b = 20 ∧ sN sh b ≤ 400) ∧ rk q < 24
theorem Wf.of {sh : Sh} {rk : Nat → Nat} (h : Wf sh rk) {q : Nat} (hq : LZ sh q) (h0 : ¬ sK sh q = 0) (h3 : ¬ sK sh q = 3) : ∃ z, sR sh q 5 = some z ∧ LZ sh z ∧ rk z < rk q := by
  obtain ⟨z, hz⟩ := (h q hq).2.2.2.2.1 h0 h3
  have hk := hq.2
  exact ⟨z, hz, (h q hq).2.2.2.1 5 (Or.inl ⟨rfl, by unfold isZ at hk; omega⟩) z hz⟩
theorem Wf.low {sh : Sh} {rk : Nat → Nat} (h : Wf sh rk) {q k : Nat} (hq : LZ sh q) (hk : lref (sK sh q) k) {z : Nat} (hz : sR sh q k = some z) : LZ sh z ∧ rk z < rk q := (h q hq).2.2.2.1 k hk z hz
theorem LZ.of {sh : Sh} {q K : Nat} (hq : q ∈ sL sh) (e : sK sh q = K) (hK : isZ K) : LZ sh q := ⟨hq, by rw [e]; exact hK⟩
theorem vin {x : Int32} {L : Nat} (h0 : ¬ x < 0) (h : ¬ nI L ≤ x) (hL : L ≤ 400) : vp_in x L := by
  obtain ⟨j, hj, e, -⟩ := pk_mu h0 h (show L < 2 ^ 31 by omega)
  rw [e]; exact vp_in_nI hj (by omega)
theorem vin' {x : Int32} {L : Nat} (h0 : ¬ x < 0) (h : x < nI L) (hL : L ≤ 400) : vp_in x L := vin h0 (Int32.not_le.mpr h) hL
section CR
variable {sh : Sh} {rk : Nat → Nat} {ci : Nat → Nat → Int32} {ai : Nat → Nat → Int32} {al : Nat → Nat → Int64} {q : Nat} {k : Int32}
theorem ok_there {Q : Int32 → Prop} (hq : LZ sh q) (hQ : ∀ r, Q r) : P_X5_there sh ci ai al q Q := ⟨hq, fun _ => hQ _, fun _ => hQ _⟩
/-- what source tells: the list itself, or one below it -/
theorem ok_source {Q : Nat → Prop} (hw : Wf sh rk) (hq : LZ sh q) (hQ : ∀ z, (z = q ∧ (sK sh q = 0 ∨ sK sh q = 1 ∨ sK sh q = 3 ∨ sK sh q = 8)) ∨ (LZ sh z ∧ rk z < rk q) → Q z) : P_V_source sh ci ai al q k Q := by
  have hof := fun h0 h3 => hw.of hq h0 h3
  refine ⟨fun e => ⟨hq, hQ _ (Or.inl ⟨rfl, Or.inl e⟩)⟩, fun e => ⟨hq, hQ _ (Or.inl ⟨rfl, Or.inr (Or.inl e)⟩)⟩, fun e => ?_, fun e => ⟨hq, hQ _ (Or.inl ⟨rfl, Or.inr (Or.inr (Or.inl e))⟩)⟩, fun e => ?_, fun e => ?_, fun e => ?_, fun e => ⟨hq, hQ _ (Or.inl ⟨rfl, Or.inr (Or.inr (Or.inr e))⟩)⟩, fun e => ?_⟩
  · obtain ⟨z, hz, h1⟩ := hof (by omega) (by omega)
    exact ⟨⟨hq.1, e⟩, z, hz, hQ _ (Or.inr h1)⟩
  · obtain ⟨z, hz, h1⟩ := hof (by omega) (by omega)
    refine ⟨⟨hq.1, e⟩, z, hz, h1.1, ok_there h1.1 (fun r => ⟨fun _ => hQ _ (Or.inr h1), fun _ => ⟨fun _ => hQ _ (Or.inr h1), fun z2 h2 => hQ _ (Or.inr (hw.low hq (Or.inr ⟨rfl, Or.inr e⟩) h2))⟩⟩)⟩
  · obtain ⟨z, hz, h1⟩ := hof (by omega) (by omega)
    exact ⟨⟨hq.1, e⟩, z, hz, hQ _ (Or.inr h1)⟩
  · obtain ⟨z, hz, h1⟩ := hof (by omega) (by omega)
    exact ⟨⟨hq.1, e⟩, z, hz, hQ _ (Or.inr h1)⟩
  · obtain ⟨z, hz, h1⟩ := hof (by omega) (by omega)
    exact ⟨⟨hq.1, e⟩, z, hz, hQ _ (Or.inr h1)⟩
theorem ok_place {Q : Int32 → Prop} (hw : Wf sh rk) (hq : LZ sh q) (hQ : ∀ r, Q r) : P_V_place sh ci ai al q k Q := by
  have hof := fun h0 h3 => hw.of hq h0 h3
  refine ⟨fun e => ⟨hq, hQ _⟩, fun e => ⟨hq, hQ _⟩, fun e => ⟨hq, hQ _⟩, fun e => ⟨hq, hQ _⟩, fun e => ?_, fun e => ?_, fun e => ⟨⟨hq.1, e⟩, hQ _⟩, fun e => ⟨hq, hQ _⟩, fun e => ?_⟩
  · obtain ⟨z, hz, h1⟩ := hof (by omega) (by omega)
    exact ⟨⟨hq.1, e⟩, z, hz, h1.1, ok_there h1.1 (fun r => ⟨fun _ => ⟨fun _ => ⟨fun h => ⟨h, hQ _⟩, fun _ => hQ _⟩, fun _ _ => hQ _⟩, fun _ => hQ _⟩)⟩
  · refine ⟨⟨hq.1, e⟩, fun _ => ?_, fun b hb => ⟨fun _ => hQ _, fun h0 => ?_⟩⟩
    · obtain ⟨z, hz, h1⟩ := hof (by omega) (by omega)
      exact ⟨z, hz, h1.1, ok_there h1.1 (fun r => hQ _)⟩
    · obtain ⟨b1, b2, b3⟩ := (hw q hq).2.2.2.2.2.2.1 e b hb
      exact ⟨⟨b1, b2⟩, fun _ => hQ _, fun h => ⟨vin h0 h b3, hQ _⟩⟩
  · refine ⟨⟨hq.1, e⟩, fun _ => hQ _, fun h0 => ?_⟩
    obtain ⟨b, hb, b1, b2, b3⟩ := (hw q hq).2.2.2.2.2.2.2.2.1 e
    exact ⟨b, hb, ⟨b1, b2⟩, fun _ => hQ _, fun h => ⟨vin h0 h b3, hQ _⟩⟩
theorem ok_number {f : Nat} : ∀ {q : Nat} {k : Int32} {Q : Int64 → Prop}, Wf sh rk → LZ sh q → rk q < f → (∀ r, Q r) → P_X5_number_f sh f ci ai al q k Q := by
  induction f with
  | zero => intro q k Q hw hq hf; exact absurd hf (Nat.not_lt_zero _)
  | succ f ih =>
    intro q k Q hw hq hf hQ
    refine ⟨hq, ok_source hw hq (fun z hz => ⟨fun _ => ⟨fun _ => hQ _, fun h0 => ?_⟩, fun hne => ok_place hw hq (fun r => ?_)⟩)⟩
    · obtain ⟨b, hb, b1, b2, b3⟩ := (hw q hq).2.1
      exact ⟨b, hb, ⟨b1, b2⟩, fun _ => hQ _, fun h => ⟨vin h0 h b3, hQ _⟩⟩
    · rcases hz with ⟨e, -⟩ | ⟨h1, h2⟩
      · exact absurd (by rw [e]) hne
      · exact ⟨h1, ih hw h1 (by omega) (fun r => hQ _)⟩
theorem ok_number30 {Q : Int64 → Prop} (hw : Wf sh rk) (hq : LZ sh q) (hQ : ∀ r, Q r) : P_X5_number_f sh 30 ci ai al q k Q := ok_number hw hq (by have := (hw q hq).2.2.2.2.2.2.2.2.2; omega) hQ
theorem nar0 : narrow .boolean (.int 0) = .int 0 := by decide
theorem nar1 : narrow .boolean (.int 1) = .int 1 := by decide
theorem ok_isWorked {f : Nat} : ∀ {q : Nat} {k : Int32} {Q : Int32 → Prop}, Wf sh rk → LZ sh q → rk q < f → (∀ r : Int32, r = 0 ∨ r = 1 → Q r) → P_X5_isWorked_f sh f ci ai al q k Q := by
  induction f with
  | zero => intro q k Q hw hq hf; exact absurd hf (Nat.not_lt_zero _)
  | succ f ih =>
    intro q k Q hw hq hf hQ
    refine ⟨hq, ok_source hw hq (fun z hz => ⟨fun _ => ⟨fun _ => hQ _ (Or.inl rfl), fun h0 => ?_⟩, fun hne => ok_place hw hq (fun r => ?_)⟩)⟩
    · obtain ⟨b, hb, b1, b2, b3⟩ := (hw q hq).2.2.1
      exact ⟨b, hb, ⟨b1, b2⟩, fun _ => hQ _ (Or.inl rfl), fun h => ⟨vin h0 h b3, fun _ => hQ _ (Or.inl rfl), fun _ => hQ _ (Or.inr rfl)⟩⟩
    · rcases hz with ⟨e, -⟩ | ⟨h1, h2⟩
      · exact absurd (by rw [e]) hne
      · refine ⟨h1, ih hw h1 (by omega) (fun r hr => ⟨?_, hQ _ hr⟩)⟩
        rcases hr with rfl | rfl
        · exact nar0
        · exact nar1
/-- of a list with items of its own (Chained): it tells whether the mark is there -/
theorem ok_isWorked0 {f : Nat} {Q : Int32 → Prop} (hw : Wf sh rk) (hq : LZ sh q) (h0 : sK sh q = 0) {b : Nat} (hb : sR sh q 2 = some b) (hQ0 : Q 0) (hQ1 : ∀ j : Nat, j < sN sh b → k = nI j → ¬ ai b j = 0 → Q 1) : P_X5_isWorked_f sh (f + 1) ci ai al q k Q := by
  refine ⟨hq, ⟨fun e => ⟨hq, ⟨fun _ => ⟨fun _ => hQ0, fun hk => ?_⟩, fun hne => absurd rfl hne⟩⟩, fun e => absurd (h0.symm.trans e) (by decide), fun e => absurd (h0.symm.trans e) (by decide), fun e => absurd (h0.symm.trans e) (by decide), fun e => absurd (h0.symm.trans e) (by decide), fun e => absurd (h0.symm.trans e) (by decide), fun e => absurd (h0.symm.trans e) (by decide), fun e => absurd (h0.symm.trans e) (by decide), fun e => absurd (h0.symm.trans e) (by decide)⟩⟩
  obtain ⟨b2, hb2, b3, b4, b5⟩ := (hw q hq).2.2.1
  obtain rfl : b = b2 := Option.some.inj (hb.symm.trans hb2)
  refine ⟨b, hb, ⟨b3, b4⟩, fun _ => hQ0, fun h => ⟨vin hk h b5, fun _ => hQ0, fun hn => ?_⟩⟩
  obtain ⟨j, hj, e, -⟩ := pk_mu hk h (show sN sh b < 2 ^ 31 by omega)
  refine hQ1 j hj e ?_
  rw [e, nI_clamp (by omega)] at hn
  exact hn
theorem cmp0 {x : Int64} : lg_cmp x 0 = 0 ↔ x = 0 := lg_cmp_eq x 0
theorem ok_meets {p0 : Int32} {p1 p2 : Int64} {Q : Int32 → Prop} (h0 : Q 0) (h1 : Q 1) : P_X11_meets p0 p1 p2 Q :=
  ⟨fun _ => ⟨fun _ => h0, fun _ => h1⟩, fun _ => ⟨fun _ => ⟨fun _ => h0, fun _ => h1⟩, fun _ => ⟨fun _ => ⟨fun _ => h0, fun _ => h1⟩, fun _ => ⟨fun h => ⟨fun e => h (cmp0.mpr e), fun _ => h0, fun _ => h1⟩, fun _ => ⟨fun _ => h0, fun _ => h1⟩⟩⟩⟩⟩
theorem ok_dbn {p0 : Int32} {p1 : Int64} {Q : Int32 → Prop} (h0 : Q 0) (h1 : Q 1) : P_X11_dividesByNone p0 p1 Q :=
  ⟨fun _ => h0, fun _ => ⟨fun _ => h1, fun _ => ⟨fun _ => h0, fun _ => h1⟩⟩⟩
theorem ok_reckon {p0 : Int32} {p1 p2 : Int64} {Q : Int64 → Prop} (hQ : ∀ r, Q r) : P_X11_reckon p0 p1 p2 Q := by
  unfold P_X11_reckon P_J9_floorDiv_f86c9 P_J9_floorMod_f86c9 P_J9_min_f86c9 P_J9_max_f86c9
  have hz : ¬ lg_cmp p2 0 = 0 → ¬ p2 = 0 := fun h e => h (cmp0.mpr e)
  simp only [hQ, implies_true, and_true, true_and]
  exact fun _ _ _ => ⟨fun _ h => hz h, fun _ _ h => hz h⟩
theorem ok_lets {p0 : Int64} {Q : Int32 → Prop} (hw : Wf sh rk) (hq : q ∈ sL sh) (h9 : sK sh q = 9) (h0 : Q 0) (h1 : Q 1) : P_X10_lets sh ci ai al q p0 k Q := by
  have hz : LZ sh q := LZ.of hq h9 (by decide)
  refine ⟨⟨hq, h9⟩, fun _ => ?_, fun _ => ok_meets ⟨nar0, h0⟩ ⟨nar1, h1⟩⟩
  have key : ∀ (n : Nat) (x4 : Int32), (k.toInt - x4.toInt).toNat < n → P_X10_lets_24 sh ci ai al Q q n p0 k x4 := by
    intro n
    induction n with
    | zero => intro x4 h; exact absurd h (Nat.not_lt_zero _)
    | succ n ih =>
      intro x4 hn
      refine ⟨fun _ => h1, fun hlt => ok_number30 hw hz (fun r => ⟨fun _ => ih _ ?_, fun _ => h0⟩)⟩
      have hl : x4 < k := Int32.not_le.mp hlt
      have e1 : x4.toInt < k.toInt := Int32.lt_iff_toInt_lt.mp hl
      have e2 : (x4 + 1).toInt = x4.toInt + 1 := by
        have := k.toInt_lt; have := x4.le_toInt
        rw [Int32.toInt_add]; simp only [Int32.reduceToInt]; rw [Int.bmod_eq_of_le] <;> omega
      omega
  exact ⟨_, key _ _ (Nat.lt_succ_self _)⟩
end CR
