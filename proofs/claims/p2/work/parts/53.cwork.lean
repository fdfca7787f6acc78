section CW
variable {sh : Sh} {rk : Nat → Nat} {ci ai ci1 ai1 ci2 ai2 : Nat → Nat → Int32} {al : Nat → Nat → Int64} {q : Nat} {k x : Int32} {Gr Gw : GTy} {Q : Int32 → SCTy}
/-- what work of list q tells: Kt, and of a Chained that the item is marked unless it is OUT -/
abbrev KtW (sh : Sh) (rk : Nat → Nat) (q : Nat) (k : Int32) (ci ai : Nat → Nat → Int32) (Q : Int32 → SCTy) : Prop := ∀ (x : Int32) (ci' ai' : Nat → Nat → Int32) (al' : Nat → Nat → Int64), r8 x → CI sh ci' ai' → Rel sh rk (rk q) ci ai ci' ai' → (sK sh q = 0 → ∀ b, sR sh q 2 = some b → ∀ j, j < sN sh b → k = nI j → ¬ x = 3 → ¬ ai' b j = 0) → Q x ci' ai' al'
theorem Kt.w (hK : Kt sh rk (rk q) ci ai Q) : KtW sh rk q k ci ai Q := fun y c a l h1 h2 h3 _ => hK y c a l h1 h2 h3
theorem ok_isW0 {f : Nat} {Q : Int32 → Prop} (hw : Wf sh rk) (hq : LZ sh q) (h0 : sK sh q = 0) {b : Nat} (hb : sR sh q 2 = some b) {j : Nat} (hj : j < sN sh b) (hQ0 : ai b j = 0 → Q 0) (hQ1 : ¬ ai b j = 0 → Q 1) : P_X5_isWorked_f sh (f + 1) ci ai al q (nI j) Q := by
  obtain ⟨b2, hb2, b3, b4, b5⟩ := (hw q hq).2.2.1
  obtain rfl : b = b2 := Option.some.inj (hb.symm.trans hb2)
  have hlt : j < 2 ^ 31 := by omega
  refine ⟨hq, ⟨fun e => ⟨hq, ⟨fun _ => ⟨fun h => absurd h (nI_pos hlt), fun hk => ?_⟩, fun hne => absurd rfl hne⟩⟩, fun e => absurd (h0.symm.trans e) (by decide), fun e => absurd (h0.symm.trans e) (by decide), fun e => absurd (h0.symm.trans e) (by decide), fun e => absurd (h0.symm.trans e) (by decide), fun e => absurd (h0.symm.trans e) (by decide), fun e => absurd (h0.symm.trans e) (by decide), fun e => absurd (h0.symm.trans e) (by decide), fun e => absurd (h0.symm.trans e) (by decide)⟩⟩
  refine ⟨b, hb, ⟨b3, b4⟩, fun h => absurd h (nI_ge hj (by omega)), fun h => ⟨vp_in_nI hj (by omega), ?_⟩⟩
  rw [nI_clamp hlt]
  exact ⟨hQ0, hQ1⟩
theorem nIs {n : Nat} : nI n + 1 = nI (n + 1) := nI_1 n
theorem nIp {n : Nat} (h : 0 < n) : nI n + (-1) = nI (n - 1) := sb_m1 h
/-- the items ahead, worked from the lowest on -/
theorem ok_aheadB {b : Nat} (hw : Wf sh rk) (hq : LZ sh q) (h0 : sK sh q = 0) (hb : sR sh q 2 = some b) (hlen : sN sh b ≤ 400)
    (hS : ∀ (ci ai : Nat → Nat → Int32) (al : Nat → Nat → Int64) (j : Nat) (Q : Int32 → SCTy), j < sN sh b → (j = 0 ∨ ¬ ai b (j - 1) = 0 ∨ ¬ ai b j = 0) → CI sh ci ai → KtW sh rk q (nI j) ci ai Q → Gw ci ai al q (nI j) Q)
    {k0 : Nat} (hk : k0 < sN sh b) (h : CI sh ci ai) (hK : Kt sh rk (rk q) ci ai Q) : P_X0_workAhead sh Gr Gw ci ai al q (nI (k0 + 1)) Q := by
  have b21 : b ∈ sL sh ∧ sK sh b = 21 := by
    obtain ⟨b2, hb2, b3, b4, b5⟩ := (hw q hq).2.2.1
    obtain rfl : b = b2 := Option.some.inj (hb.symm.trans hb2)
    exact ⟨b3, b4⟩
  have key : ∀ (n : Nat) (x3 : Int32) (j : Nat) (ci1 ai1 : Nat → Nat → Int32) (al1 : Nat → Nat → Int64), k0 + 1 - j < n → j ≤ k0 + 1 → r8 x3 → (j ≤ k0 → ¬ x3 = 3 → (j = 0 ∨ ¬ ai1 b (j - 1) = 0 ∨ ¬ ai1 b j = 0)) → CI sh ci1 ai1 → Kt sh rk (rk q) ci1 ai1 Q → P_X0_workAhead_27 sh Gr Gw Q q n ci1 ai1 al1 (nI (k0 + 1)) x3 (nI j) := by
    intro n
    induction n with
    | zero => intro x3 j ci1 ai1 al1 hn; exact absurd hn (Nat.not_lt_zero _)
    | succ n ih =>
      intro x3 j ci1 ai1 al1 hn hj hx hc c1 K1
      refine ⟨fun _ => K1 _ _ _ _ hx c1 Rel.rf, fun hlt => ⟨fun _ => K1 _ _ _ _ hx c1 Rel.rf, fun h3 => ?_⟩⟩
      have hj2 : j ≤ k0 := by
        have : ¬ k0 + 1 ≤ j := fun h => hlt (nI_le h (by omega))
        omega
      refine hS _ _ _ j _ (by omega) (hc hj2 h3) c1 (fun y c a l e1 e2 e3 e4 => ?_)
      show P_X0_workAhead_27 sh Gr Gw Q q n c a l (nI (k0 + 1)) y (nI j + 1)
      rw [nIs]
      exact ih _ (j + 1) _ _ _ (by omega) (by omega) e1 (fun _ hy => Or.inr (Or.inl (by rw [Nat.add_sub_cancel]; exact e4 h0 b hb j (by omega) rfl hy))) e2 (K1.to e3)
  have key4 : ∀ (n f : Nat), f < n → f ≤ k0 → P_X0_workAhead_4 sh Gr Gw Q q n ci ai al (nI (k0 + 1)) (nI f) := by
    intro n
    induction n with
    | zero => intro f hn; exact absurd hn (Nat.not_lt_zero _)
    | succ n ih =>
      intro f hn hf
      refine ⟨fun hle => ⟨_, key _ _ f _ _ _ (Nat.lt_succ_self _) (by omega) r8_1 (fun _ _ => Or.inl ?_) h hK⟩, fun hgt => ok_isW0 hw hq h0 hb (by omega) (fun hz => ⟨fun hne => absurd rfl hne, fun _ => ?_⟩) (fun hz => ⟨fun _ => ⟨_, key _ _ f _ _ _ (Nat.lt_succ_self _) (by omega) r8_1 (fun _ _ => Or.inr (Or.inr hz)) h hK⟩, fun he => absurd he (by decide)⟩)⟩
      · rcases Nat.eq_zero_or_pos f with e | e
        · exact e
        · exact absurd hle (nI_nle e (by omega))
      · have hp : 0 < f := Nat.pos_of_ne_zero (fun e => hgt (by rw [e]; decide))
        show P_X0_workAhead_4 sh Gr Gw Q q n ci ai al (nI (k0 + 1)) (nI f + (-1))
        rw [nIp hp]
        exact ih (f - 1) (by omega) (by omega)
  refine ⟨⟨hq.1, h0⟩, k0 + 1, ?_⟩
  rw [show (1 : Int32) = nI 1 from rfl, pk_sub (by omega), Nat.add_sub_cancel]
  exact key4 _ k0 (by omega) (Nat.le_refl _)
/-- where the item ahead is marked: it is found so -/
theorem ok_aheadC {b : Nat} (hw : Wf sh rk) (hq : LZ sh q) (h0 : sK sh q = 0) (hb : sR sh q 2 = some b) (hlen : sN sh b ≤ 400)
    (hS : ∀ (ci ai : Nat → Nat → Int32) (al : Nat → Nat → Int64) (j : Nat) (Q : Int32 → SCTy), j < sN sh b → ¬ ai b j = 0 → CI sh ci ai → KtW sh rk q (nI j) ci ai Q → Gw ci ai al q (nI j) Q)
    {k0 : Nat} (hk : k0 < sN sh b) (hm : ¬ ai b k0 = 0) (h : CI sh ci ai) (hK : Kt sh rk (rk q) ci ai Q) : P_X0_workAhead sh Gr Gw ci ai al q (nI (k0 + 1)) Q := by
  have key : P_X0_workAhead_27 sh Gr Gw Q q 2 ci ai al (nI (k0 + 1)) 1 (nI k0) := by
    refine ⟨fun hle => absurd hle (nI_ge (by omega) (by omega)), fun _ => ⟨fun h => absurd h (by decide), fun _ => ?_⟩⟩
    refine hS _ _ _ k0 _ hk hm h (fun y c a l e1 e2 e3 e4 => ?_)
    show P_X0_workAhead_27 sh Gr Gw Q q 1 c a l (nI (k0 + 1)) y (nI k0 + 1)
    rw [nIs]
    exact ⟨fun _ => hK _ _ _ _ e1 e2 e3, fun hlt => absurd (nI_le (Nat.le_refl _) (by omega)) hlt⟩
  refine ⟨⟨hq.1, h0⟩, 1, ?_⟩
  rw [show (1 : Int32) = nI 1 from rfl, pk_sub (by omega), Nat.add_sub_cancel]
  exact ⟨fun _ => ⟨2, key⟩, fun _ => ok_isW0 hw hq h0 hb hk (fun hz => absurd hz hm) (fun _ => ⟨fun _ => ⟨2, key⟩, fun he => absurd he (by decide)⟩)⟩
theorem ok_form0 (hw : Wf sh rk) (hL : Low sh rk (rk q) Gr Gw) (hq : LZ sh q) (h0 : sK sh q = 0) {k0 : Nat} (hk : k0 < 400)
    (hA : ∀ (Q : Int32 → SCTy), 0 < k0 → Kt sh rk (rk q) ci ai Q → P_X0_workAhead sh Gr Gw ci ai al q (nI k0) Q) (h : CI sh ci ai) (hK : Kt sh rk (rk q) ci ai Q) : P_X0_form sh Gr Gw ci ai al q (nI k0) Q := by
  refine ⟨⟨hq.1, h0⟩, fun hne => ⟨fun _ => ⟨fun _ => ok_tellOp hw hq (fun y l hy => hK _ _ _ _ hy h Rel.rf), fun z hz => ?_⟩, fun _ => ?_⟩, fun _ => ok_tell hw hq (fun y l hy => hK _ _ _ _ hy h Rel.rf)⟩
  · obtain ⟨z1, z2⟩ := hw.low hq (Or.inl ⟨rfl, Or.inl h0⟩) hz
    exact ⟨z1, (hL z z1 z2 _ _ _ _ _ h (fun r6 c6 a6 l6 e1 e2 e3 => ⟨fun _ => ok_number30 hw z1 (fun r7 => ok_tellOp hw hq (fun y l hy => hK _ _ _ _ hy e2 e3)), fun _ => hK _ _ _ _ e1 e2 e3⟩)).2⟩
  · have hp : 0 < k0 := Nat.pos_of_ne_zero (fun e => hne (by rw [e]; rfl))
    refine hA _ hp (fun r9 c9 a9 l9 e1 e2 e3 => ⟨fun _ => ok_number30 hw hq (fun r10 => ⟨fun _ => ok_tellOp hw hq (fun y l hy => hK _ _ _ _ hy e2 e3), fun _ => ⟨fun _ => ok_tellOp hw hq (fun y l hy => hK _ _ _ _ hy e2 e3), fun z hz => ?_⟩⟩), fun _ => hK _ _ _ _ e1 e2 e3⟩)
    obtain ⟨z1, z2⟩ := hw.low hq (Or.inl ⟨rfl, Or.inl h0⟩) hz
    exact ⟨z1, (hL z z1 z2 _ _ _ _ _ e2 (fun r6 c6 a6 l6 f1 f2 f3 => ⟨fun _ => ok_number30 hw z1 (fun r7 => ok_tellOp hw hq (fun y l hy => hK _ _ _ _ hy f2 (e3.tr f3))), fun _ => hK _ _ _ _ f1 f2 (e3.tr f3)⟩)).2⟩
theorem ok_form (hw : Wf sh rk) (hL : Low sh rk (rk q) Gr Gw) (hq : LZ sh q) (hf0 : sK sh q = 0 → P_X0_form sh Gr Gw ci ai al q k Q) (h : CI sh ci ai) (hK : Kt sh rk (rk q) ci ai Q) : P_V_form sh Gr Gw ci ai al q k Q := by
  have hof := fun h0 h3 => hw.of hq h0 h3
  have st : ∀ {y : Int32} {al' : Nat → Nat → Int64}, r8 y → Q y ci ai al' := fun hy => hK _ _ _ _ hy h Rel.rf
  refine ⟨hf0, fun e => ?_, fun e => ⟨hq, st r8_3⟩, fun e => ?_, fun e => ⟨hq, st r8_3⟩, fun e => ⟨hq, st r8_3⟩, fun e => ⟨hq, st r8_3⟩, fun e => ?_, fun e => ⟨hq, st r8_3⟩⟩
  · obtain ⟨z, hz, z1, z2⟩ := hof (by omega) (by omega)
    refine ⟨⟨hq.1, e⟩, fun _ => ⟨fun _ => ok_tellOp hw hq (fun y l hy => st hy), fun y hy => ?_⟩, fun _ => ⟨z, hz, z1, (hL z z1 z2 _ _ _ _ _ h (fun r6 c6 a6 l6 e1 e2 e3 => ⟨fun _ => ok_number30 hw z1 (fun r7 => ⟨fun _ => ok_tellOp hw hq (fun y l hy => hK _ _ _ _ hy e2 e3), fun _ => ⟨fun _ => ok_tellOp hw hq (fun y l hy => hK _ _ _ _ hy e2 e3), fun y hy => ?_⟩⟩), fun _ => hK _ _ _ _ e1 e2 e3⟩)).2⟩⟩
    · obtain ⟨y1, y2⟩ := hw.low hq (Or.inr ⟨rfl, Or.inl e⟩) hy
      exact ⟨y1, (hL y y1 y2 _ _ _ _ _ h (fun r6 c6 a6 l6 e1 e2 e3 => ⟨fun _ => ok_number30 hw y1 (fun r7 => ok_tellOp hw hq (fun y l hy => hK _ _ _ _ hy e2 e3)), fun _ => hK _ _ _ _ e1 e2 e3⟩)).2⟩
    · obtain ⟨y1, y2⟩ := hw.low hq (Or.inr ⟨rfl, Or.inl e⟩) hy
      exact ⟨y1, (hL y y1 y2 _ _ _ _ _ e2 (fun r6 c6 a6 l6 f1 f2 f3 => ⟨fun _ => ok_number30 hw y1 (fun r7 => ok_tellOp hw hq (fun y l hy => hK _ _ _ _ hy f2 (e3.tr f3))), fun _ => hK _ _ _ _ f1 f2 (e3.tr f3)⟩)).2⟩
  · obtain ⟨b, hb, b1, b2, b3⟩ := (hw q hq).2.2.2.2.2.1 e
    refine ⟨⟨hq.1, e⟩, fun _ => st r8_3, fun hn => ⟨b, hb, ⟨b1, b2⟩, fun _ => st r8_3, fun hl => ⟨vin hn hl b3, st ?_⟩⟩⟩
    obtain ⟨j, hj, ej, -⟩ := pk_mu hn hl (show sN sh b < 2 ^ 31 by omega)
    rw [ej, nI_clamp (by omega)]
    exact (h.1 b b1 b2 j).r8 (h.2.1 q hq.1 e b hb b2 j hj)
  · obtain ⟨b, hb, b1, b2, b3⟩ := (hw q hq).2.2.2.2.2.2.2.1 e
    refine ⟨⟨hq.1, e⟩, fun _ => st r8_3, fun hn => ⟨b, hb, ⟨b1, b2⟩, fun hl => ?_, fun _ => st r8_3⟩⟩
    have hin : vp_in k (sN sh b) := vin' hn hl b3
    refine ⟨hin, ok_lookThrough hw hL hq.1 e h (fun r6 c6 a6 l6 f1 f2 f3 => ⟨fun _ => ⟨hin, ok_tell hw hq (fun y l hy => hK _ _ _ _ hy f2 f3)⟩, fun _ => ⟨fun _ => hK _ _ _ _ f1 f2 f3, fun _ => ⟨hin, ok_tell hw hq (fun y l hy => hK _ _ _ _ hy f2 f3)⟩⟩⟩)⟩
end CW
