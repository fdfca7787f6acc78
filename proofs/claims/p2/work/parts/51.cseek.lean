def r8 (x : Int32) : Prop := ∃ n : Nat, 1 ≤ n ∧ n ≤ 8 ∧ x = nI n
def m8 (x : Int32) : Prop := ∃ n : Nat, n ≤ 8 ∧ x = nI n
/-- what the class's numbers are while asks run -/
def CI (sh : Sh) (ci ai : Nat → Nat → Int32) : Prop :=
  (∀ b, b ∈ sL sh → sK sh b = 21 → ∀ j, m8 (ai b j)) ∧
  (∀ q, q ∈ sL sh → sK sh q = 3 → ∀ f, sR sh q 5 = some f → sK sh f = 21 → ∀ j, j < sN sh f → ¬ ai f j = 0) ∧
  (∀ q, q ∈ sL sh → sK sh q = 3 → r8 (ci q 6)) ∧
  (∀ q, LZ sh q → ∃ m c : Nat, ci q 3 = nI m ∧ ci q 4 = nI c ∧ c ≤ 8 ∧ m ≤ 401 ∧ (c = 0 → m ≤ 400))
/-- what an ask leaves as it was: marks stay, lists of rank r and above keep what they reached, the object keeps its own fields -/
def Rel (sh : Sh) (rk : Nat → Nat) (r : Nat) (ci ai ci' ai' : Nat → Nat → Int32) : Prop :=
  (∀ b, b ∈ sL sh → sK sh b = 21 → ∀ j, ¬ ai b j = 0 → ¬ ai' b j = 0) ∧
  (∀ z, LZ sh z → r ≤ rk z → ci' z 3 = ci z 3 ∧ ci' z 4 = ci z 4) ∧
  (∀ z, sK sh z = 10 → ci' z = ci z)
abbrev SCTy : Type := (Nat → Nat → Int32) → (Nat → Nat → Int32) → (Nat → Nat → Int64) → Prop
abbrev GTy : Type := (Nat → Nat → Int32) → (Nat → Nat → Int32) → (Nat → Nat → Int64) → Nat → Int32 → (Int32 → SCTy) → Prop
abbrev Kt (sh : Sh) (rk : Nat → Nat) (r : Nat) (ci ai : Nat → Nat → Int32) (Q : Int32 → SCTy) : Prop := ∀ (x : Int32) (ci' ai' : Nat → Nat → Int32) (al' : Nat → Nat → Int64), r8 x → CI sh ci' ai' → Rel sh rk r ci ai ci' ai' → Q x ci' ai' al'
abbrev Low (sh : Sh) (rk : Nat → Nat) (R : Nat) (Gr Gw : GTy) : Prop := ∀ z, LZ sh z → rk z < R → ∀ (ci ai : Nat → Nat → Int32) (al : Nat → Nat → Int64) (k : Int32) (Q : Int32 → SCTy), CI sh ci ai → Kt sh rk R ci ai Q → Gr ci ai al z k Q ∧ Gw ci ai al z k Q
theorem r8_n {n : Nat} (h1 : 1 ≤ n) (h2 : n ≤ 8) : r8 (nI n) := ⟨n, h1, h2, rfl⟩
theorem r8_1 : r8 1 := r8_n (n := 1) (by decide) (by decide)
theorem r8_2 : r8 2 := r8_n (n := 2) (by decide) (by decide)
theorem r8_3 : r8 3 := r8_n (n := 3) (by decide) (by decide)
theorem r8_5 : r8 5 := r8_n (n := 5) (by decide) (by decide)
theorem r8_6 : r8 6 := r8_n (n := 6) (by decide) (by decide)
theorem r8.ne {x : Int32} (h : r8 x) : ¬ x = 0 := by
  obtain ⟨n, h1, h2, rfl⟩ := h
  exact nI_ne0 (by omega) (by omega)
theorem r8.m8 {x : Int32} (h : r8 x) : m8 x := by
  obtain ⟨n, h1, h2, rfl⟩ := h
  exact ⟨n, h2, rfl⟩
theorem m8.r8 {x : Int32} (h : m8 x) (h0 : ¬ x = 0) : r8 x := by
  obtain ⟨n, h2, rfl⟩ := h
  rcases Nat.eq_zero_or_pos n with rfl | hp
  · exact absurd rfl h0
  · exact ⟨n, hp, h2, rfl⟩
theorem r8.nar {x : Int32} (h : r8 x) : vp_nar .byte x.toInt8.toInt32 = x := by
  obtain ⟨n, h1, h2, rfl⟩ := h
  rcases (show n = 1 ∨ n = 2 ∨ n = 3 ∨ n = 4 ∨ n = 5 ∨ n = 6 ∨ n = 7 ∨ n = 8 by omega) with rfl | rfl | rfl | rfl | rfl | rfl | rfl | rfl <;> decide
section CS
variable {sh : Sh} {rk : Nat → Nat} {ci ai ci1 ai1 ci2 ai2 : Nat → Nat → Int32} {al : Nat → Nat → Int64} {q r r' : Nat} {k x : Int32}
theorem Rel.rf : Rel sh rk r ci ai ci ai := ⟨fun _ _ _ _ h => h, fun _ _ _ => ⟨rfl, rfl⟩, fun _ _ => rfl⟩
theorem Rel.tr (h1 : Rel sh rk r ci ai ci1 ai1) (h2 : Rel sh rk r ci1 ai1 ci2 ai2) : Rel sh rk r ci ai ci2 ai2 :=
  ⟨fun b hb hk j h => h2.1 b hb hk j (h1.1 b hb hk j h), fun z hz hr => ⟨(h2.2.1 z hz hr).1.trans (h1.2.1 z hz hr).1, (h2.2.1 z hz hr).2.trans (h1.2.1 z hz hr).2⟩, fun z hz => (h2.2.2 z hz).trans (h1.2.2 z hz)⟩
theorem Rel.up (h : Rel sh rk r ci ai ci1 ai1) (hr : r ≤ r') : Rel sh rk r' ci ai ci1 ai1 := ⟨h.1, fun z hz h2 => h.2.1 z hz (Nat.le_trans hr h2), h.2.2⟩
theorem up2 {f : Nat → Nat → Int32} {q k z j : Nat} (h : ¬ (z = q ∧ j = k)) : va_up f q (va_up (f q) k x) z j = f z j := by
  unfold va_up
  by_cases h1 : z = q
  · subst h1
    rw [if_pos rfl, if_neg (fun e => h ⟨rfl, e⟩)]
  · rw [if_neg h1]
theorem CI.fld {j : Nat} (h : CI sh ci ai) (hj : j ≠ 3 ∧ j ≠ 4) (h3 : sK sh q = 3 → j ≠ 6) : CI sh (va_up ci q (va_up (ci q) j x)) ai := by
  refine ⟨h.1, h.2.1, fun z hz hk => ?_, fun z hz => ?_⟩
  · rw [up2 (z := z) (j := 6) (q := q) (k := j) (fun e => h3 (by rw [← e.1]; exact hk) e.2.symm)]; exact h.2.2.1 z hz hk
  · rw [up2 (fun e => hj.1 e.2.symm), up2 (fun e => hj.2 e.2.symm)]; exact h.2.2.2 z hz
theorem Rel.fld {j : Nat} (hj : j ≠ 3 ∧ j ≠ 4) (h10 : ¬ sK sh q = 10) : Rel sh rk r ci ai (va_up ci q (va_up (ci q) j x)) ai := by
  refine ⟨fun _ _ _ _ h => h, fun z hz _ => ⟨up2 (fun e => hj.1 e.2.symm), up2 (fun e => hj.2 e.2.symm)⟩, fun z hz => ?_⟩
  exact va_up_ne _ _ (fun e => h10 (e ▸ hz))
theorem CI.arr {f : Nat → Int32} (h : CI sh ci ai) (hk : sK sh q = 20) : CI sh ci (va_up ai q f) := by
  refine ⟨fun b hb hb2 j => ?_, fun z hz hz3 b hb hb2 j hj => ?_, h.2.2.1, h.2.2.2⟩
  · rw [va_up_ne _ _ (fun e => by rw [e, hk] at hb2; cases hb2)]; exact h.1 b hb hb2 j
  · rw [va_up_ne _ _ (fun e => by rw [e, hk] at hb2; cases hb2)]; exact h.2.1 z hz hz3 b hb hb2 j hj
theorem Rel.arr {f : Nat → Int32} (hk : sK sh q = 20) : Rel sh rk r ci ai ci (va_up ai q f) := by
  refine ⟨fun b hb hb2 j h => ?_, fun z hz _ => ⟨rfl, rfl⟩, fun z hz => rfl⟩
  rw [va_up_ne _ _ (fun e => by rw [e, hk] at hb2; cases hb2)]; exact h
theorem upd2 {f : Nat → Nat → Int32} {b c i j : Nat} : va_up f b (upd (f b) i x) c j = if c = b ∧ j = i then x else f c j := by
  unfold va_up upd
  by_cases h1 : c = b
  · subst h1
    by_cases h2 : j = i
    · rw [if_pos rfl, if_pos h2, if_pos ⟨rfl, h2⟩]
    · rw [if_pos rfl, if_neg h2, if_neg (fun e => h2 e.2)]
  · rw [if_neg h1, if_neg (fun e => h1 e.1)]
theorem CI.mark {b i : Nat} (h : CI sh ci ai) (hx : r8 x) : CI sh ci (va_up ai b (upd (ai b) i x)) := by
  refine ⟨fun c hc hc2 j => ?_, fun z hz hz3 c hc hc2 j hj => ?_, h.2.2.1, h.2.2.2⟩
  · rw [upd2]; split
    · exact hx.m8
    · exact h.1 c hc hc2 j
  · rw [upd2]; split
    · exact hx.ne
    · exact h.2.1 z hz hz3 c hc hc2 j hj
theorem Rel.mark {b i : Nat} (hx : r8 x) : Rel sh rk r ci ai ci (va_up ai b (upd (ai b) i x)) := by
  refine ⟨fun c hc hc2 j h => ?_, fun z hz _ => ⟨rfl, rfl⟩, fun z hz => rfl⟩
  rw [upd2]; split
  · exact hx.ne
  · exact h
theorem ok_spend {Q : Int32 → SCTy} (h : CI sh ci ai) (hq : q ∈ sL sh) (h5 : sK sh q = 5) (hQ : ∀ (y : Int32) (ci' : Nat → Nat → Int32), (y = 0 ∨ y = 1) → CI sh ci' ai → Rel sh rk 0 ci ai ci' ai → Q y ci' ai al) : P_X6_spend sh ci ai al q Q := by
  refine ⟨⟨hq, h5⟩, fun _ z _ => ?_, fun _ => hQ 0 ci (Or.inl rfl) h Rel.rf⟩
  exact hQ 1 _ (Or.inr rfl) ((h.fld (by decide) (fun e => absurd (h5.symm.trans e) (by decide))).fld (by decide) (fun e => absurd (h5.symm.trans e) (by decide))) ((Rel.fld (by decide) (fun e => absurd (h5.symm.trans e) (by decide))).tr (Rel.fld (by decide) (fun e => absurd (h5.symm.trans e) (by decide))))
theorem ok_tell {Q : Int32 → SCTy} {z : Int64} (hw : Wf sh rk) (hq : LZ sh q) (hQ : ∀ (y : Int32) (al' : Nat → Nat → Int64), r8 y → Q y ci ai al') : P_X5_tell sh ci ai al q k z Q := by
  refine ⟨hq, fun _ => hQ _ _ r8_3, fun h0 => ?_⟩
  obtain ⟨b, hb, b1, b2, b3⟩ := (hw q hq).2.1
  exact ⟨b, hb, ⟨b1, b2⟩, fun h => ⟨vin' h0 h b3, hQ _ _ r8_1⟩, fun _ => hQ _ _ r8_3⟩
theorem ok_tellOp {Q : Int32 → SCTy} {o : Int32} {z y : Int64} (hw : Wf sh rk) (hq : LZ sh q) (hQ : ∀ (y : Int32) (al' : Nat → Nat → Int64), r8 y → Q y ci ai al') : P_X5_tellOp sh ci ai al q k o z y Q :=
  ⟨hq, ok_dbn ⟨fun _ => ok_reckon (fun _ => ok_tell hw hq hQ), fun h => absurd rfl h⟩ ⟨fun h => absurd h (by decide), fun _ => hQ _ _ r8_5⟩⟩
/-- one more, below 401 -/
theorem inc400 {x : Int32} (h : ¬ 400 < x) : (x + 1).toInt = x.toInt + 1 ∧ x.toInt ≤ 400 := by
  have h1 : x.toInt ≤ 400 := by
    have := Int32.le_iff_toInt_le.mp (Int32.not_lt.mp h)
    simpa using this
  have h2 := x.le_toInt
  refine ⟨?_, h1⟩
  rw [Int32.toInt_add]; simp only [Int32.reduceToInt]; rw [Int.bmod_eq_of_le] <;> omega
theorem incLt {x y : Int32} (h : ¬ y ≤ x) : (x + 1).toInt = x.toInt + 1 ∧ x.toInt < y.toInt := by
  have h1 := Int32.lt_iff_toInt_lt.mp (Int32.not_le.mp h)
  have h2 := x.le_toInt; have h3 := y.toInt_lt
  refine ⟨?_, h1⟩
  rw [Int32.toInt_add]; simp only [Int32.reduceToInt]; rw [Int.bmod_eq_of_le] <;> omega
variable {Gr Gw : GTy} {Q : Int32 → SCTy}
theorem Kt.to {r : Nat} (hK : Kt sh rk r ci ai Q) (h : Rel sh rk r ci ai ci1 ai1) : Kt sh rk r ci1 ai1 Q := fun y c a l h1 h2 h3 => hK y c a l h1 h2 (h.tr h3)
theorem ok_findStart (hw : Wf sh rk) (hL : Low sh rk (rk q) Gr Gw) (hq : q ∈ sL sh) (h7 : sK sh q = 7) (h : CI sh ci ai) (hK : Kt sh rk (rk q) ci ai Q) : P_X8_findStart sh Gr Gw ci ai al q Q := by
  have hz : LZ sh q := LZ.of hq h7 (by decide)
  obtain ⟨z, hz5, hzl, hzr⟩ := hw.of hz (by omega) (by omega)
  have key : ∀ (n : Nat) (x : Int32) (ci1 ai1 : Nat → Nat → Int32) (al1 : Nat → Nat → Int64), (401 - x.toInt).toNat < n → CI sh ci1 ai1 → Kt sh rk (rk q) ci1 ai1 Q → P_X8_findStart_2 sh Gr Gw Q q n ci1 ai1 al1 x := by
    intro n
    induction n with
    | zero => intro x ci1 ai1 al1 hn; exact absurd hn (Nat.not_lt_zero _)
    | succ n ih =>
      intro x ci1 ai1 al1 hn h1 hK1
      refine ⟨fun _ => hK1 _ _ _ _ r8_3 h1 Rel.rf, fun hx => ⟨z, hz5, hzl, (hL z hzl hzr _ _ _ _ _ h1 (fun r5 c5 a5 l5 e1 e2 e3 => ⟨fun _ => ?_, fun _ => hK1 _ _ _ _ e1 e2 e3⟩)).1⟩⟩
      refine (hL z hzl hzr _ _ _ _ _ e2 (fun r6 c6 a6 l6 f1 f2 f3 => ?_)).2
      have hq8 : Q r6 (va_up c6 q (va_up (c6 q) 8 x)) a6 l6 := hK1 _ _ _ _ f1 (f2.fld (by decide) (fun e => absurd (h7.symm.trans e) (by decide))) ((e3.tr f3).tr (Rel.fld (by decide) (fun e => absurd (h7.symm.trans e) (by decide))))
      refine ⟨fun _ => hq8, fun _ => ok_number30 hw hzl (fun r7 => ok_meets ⟨fun h => absurd rfl h, fun _ => hq8⟩ ⟨fun _ => ih _ _ _ _ ?_ f2 ((hK1.to e3).to f3), fun h => absurd h (by decide)⟩)⟩
      have := inc400 hx
      omega
  exact ⟨⟨hq, h7⟩, _, key _ _ _ _ _ (Nat.lt_succ_self _) h hK⟩
theorem ok_lookThrough (hw : Wf sh rk) (hL : Low sh rk (rk q) Gr Gw) (hq : q ∈ sL sh) (h8 : sK sh q = 8) (h : CI sh ci ai) (hK : Kt sh rk (rk q) ci ai Q) : P_X9_lookThrough sh Gr Gw ci ai al q k Q := by
  have hz : LZ sh q := LZ.of hq h8 (by decide)
  obtain ⟨z, hz5, hzl, hzr⟩ := hw.of hz (by omega) (by omega)
  have key : ∀ (n : Nat) (v : Int64) (x : Int32) (ci1 ai1 : Nat → Nat → Int32) (al1 : Nat → Nat → Int64), (401 - x.toInt).toNat < n → CI sh ci1 ai1 → Kt sh rk (rk q) ci1 ai1 Q → P_X9_lookThrough_30 sh Gr Gw Q q n ci1 ai1 al1 v x := by
    intro n
    induction n with
    | zero => intro v x ci1 ai1 al1 hn; exact absurd hn (Nat.not_lt_zero _)
    | succ n ih =>
      intro v x ci1 ai1 al1 hn h1 hK1
      have h2 : CI sh (va_up ci1 q (va_up (ci1 q) 7 x)) ai1 := h1.fld (by decide) (fun e => absurd (h8.symm.trans e) (by decide))
      have hR : Rel sh rk (rk q) ci1 ai1 (va_up ci1 q (va_up (ci1 q) 7 x)) ai1 := Rel.fld (by decide) (fun e => absurd (h8.symm.trans e) (by decide))
      have hK2 := hK1.to hR
      refine ⟨fun _ => hK1 _ _ _ _ r8_3 h1 Rel.rf, fun hx => ⟨z, hz5, hzl, (hL z hzl hzr _ _ _ _ _ h2 (fun r5 c5 a5 l5 e1 e2 e3 => ⟨fun _ => ?_, fun _ => hK2 _ _ _ _ e1 e2 e3⟩)).1⟩⟩
      refine (hL z hzl hzr _ _ _ _ _ e2 (fun r6 c6 a6 l6 f1 f2 f3 => ⟨fun _ => hK2 _ _ _ _ f1 f2 (e3.tr f3), fun _ => ok_number30 hw hzl (fun r7 => ⟨fun _ => ih _ _ _ _ _ ?_ f2 ((hK2.to e3).to f3), fun _ => hK2 _ _ _ _ f1 f2 (e3.tr f3)⟩)⟩)).2
      have := inc400 hx
      omega
  exact ⟨⟨hq, h8⟩, z, hz5, hzl, (hL z hzl hzr _ _ _ _ _ h (fun r5 c5 a5 l5 e1 e2 e3 => ⟨fun _ => ok_number30 hw hzl (fun r6 => ⟨_, key _ _ _ _ _ _ (Nat.lt_succ_self _) e2 (hK.to e3)⟩), fun _ => hK _ _ _ _ e1 e2 e3⟩)).2⟩
end CS
