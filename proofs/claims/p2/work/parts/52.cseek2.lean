section CS2
variable {sh : Sh} {rk : Nat → Nat} {ci ai ci1 ai1 ci2 ai2 : Nat → Nat → Int32} {al : Nat → Nat → Int64} {q : Nat} {k x : Int32} {Gr Gw : GTy} {Q : Int32 → SCTy}
theorem decPos {x : Int32} (h : ¬ x ≤ 0) : (x + (-1)).toInt = x.toInt - 1 ∧ 0 < x.toInt := by
  have h1 : 0 < x.toInt := by
    have := Int32.lt_iff_toInt_lt.mp (Int32.not_le.mp h)
    simpa using this
  have h2 := x.toInt_lt
  refine ⟨?_, h1⟩
  rw [Int32.toInt_add]; simp only [Int32.reduceToInt]; rw [Int.bmod_eq_of_le] <;> omega
theorem dn1 {t u : Int} {n : Nat} (h : t = u - 1) (h0 : 0 < u) (hn : u.toNat < n + 1) : t.toNat < n := by omega
theorem dn2 {t u : Int} (h : t = u - 1) (h0 : 0 < u) : 0 ≤ t := by omega
theorem dn3 {t u : Int} {m : Nat} (h : t = u - 1) (h0 : u < m) : t < m := by omega
theorem subOne {x : Int32} : x - 1 = x + (-1) := by
  apply Int32.toInt_inj.mp
  rw [Int32.toInt_sub, Int32.toInt_add]
  simp only [Int32.reduceToInt]
  congr 1
theorem vpT {x : Int32} {n : Nat} (h0 : 0 ≤ x.toInt) (h : x.toInt < n) : vp_in x n := vp_in_iff.mpr ⟨h0, h⟩
theorem ok_insertPlace {Q : SCTy} {b : Nat} (hw : Wf sh rk) (hq : q ∈ sL sh) (h6 : sK sh q = 6) (hb : sR sh q 6 = some b) (h0 : 0 ≤ x.toInt) (h1 : x.toInt < sN sh b) (h : CI sh ci ai) (hK : ∀ ai', CI sh ci ai' → (∀ r, Rel sh rk r ci ai ci ai') → Q ci ai' al) : P_X7_insertPlace sh ci ai al q x Q := by
  have hz : LZ sh q := LZ.of hq h6 (by decide)
  obtain ⟨z, hz5, hzl, hzr⟩ := hw.of hz (by omega) (by omega)
  obtain ⟨b1, b2, b3⟩ := (hw q hz).2.2.2.2.2.2.1 h6 b hb
  have bb : ∀ z, sR sh q 6 = some z → z = b := fun z hz => Option.some.inj (hz.symm.trans hb)
  have key : ∀ (n : Nat) (v : Int64) (y : Int32) (ai1 : Nat → Nat → Int32), y.toInt.toNat < n → 0 ≤ y.toInt → y.toInt < sN sh b → CI sh ci ai1 → (∀ r, Rel sh rk r ci ai ci ai1) → P_X7_insertPlace_12 sh Q q n ci ai1 al x v y := by
    intro n
    induction n with
    | zero => intro v y ai1 hn; exact absurd hn (Nat.not_lt_zero _)
    | succ n ih =>
      intro v y ai1 hn y0 y1 c1 R1
      have fin : ∀ w : Int32, Q ci (va_up ai1 b (upd (ai1 b) y.toNatClampNeg w)) al := fun w => hK _ (c1.arr b2) (fun r => (R1 r).tr (Rel.arr b2))
      refine ⟨fun _ => ⟨fun e => absurd (hb.symm.trans e) (by simp), fun c hc => ?_⟩, fun hy => ⟨z, hz5, fun e => absurd (hb.symm.trans e) (by simp), fun c hc => ?_⟩⟩
      · obtain rfl := bb c hc
        exact ⟨⟨b1, b2⟩, vpT y0 y1, fin x⟩
      · obtain rfl := bb c hc
        have hd := decPos hy
        have hm : vp_in (y - 1) (sN sh c) := by rw [subOne]; exact vpT (dn2 hd.1 hd.2) (dn3 hd.1 y1)
        have d1 : (y + (-1)).toInt.toNat < n := dn1 hd.1 hd.2 hn
        have d2 : 0 ≤ (y + (-1)).toInt := dn2 hd.1 hd.2
        have d3 : (y + (-1)).toInt < sN sh c := dn3 hd.1 y1
        have nx : P_X7_insertPlace_12 sh Q q n ci (va_up ai1 c (upd (ai1 c) y.toNatClampNeg (ai1 c (y - 1).toNatClampNeg))) al x v (y + (-1)) := ih v _ _ d1 d2 d3 (c1.arr b2) (fun r => (R1 r).tr (Rel.arr b2))
        exact ⟨⟨b1, b2⟩, hm, hzl, ok_number30 hw hzl (fun r => ⟨fun _ => ⟨vpT y0 y1, fin x⟩, fun _ => ⟨hm, vpT y0 y1, nx⟩⟩)⟩
  exact ⟨⟨hq, h6⟩, z, hz5, hzl, ok_number30 hw hzl (fun r => ⟨_, key _ _ _ _ (Nat.lt_succ_self _) h0 h1 h (fun _ => Rel.rf)⟩)⟩
theorem ok_sortPlaces {b : Nat} (hw : Wf sh rk) (hL : Low sh rk (rk q) Gr Gw) (hq : q ∈ sL sh) (h6 : sK sh q = 6) (hb : sR sh q 6 = some b) (h : CI sh ci ai) (hK : Kt sh rk (rk q) ci ai Q) : P_X7_sortPlaces sh Gr Gw ci ai al q Q := by
  have hz : LZ sh q := LZ.of hq h6 (by decide)
  obtain ⟨z, hz5, hzl, hzr⟩ := hw.of hz (by omega) (by omega)
  obtain ⟨b1, b2, b3⟩ := (hw q hz).2.2.2.2.2.2.1 h6 b hb
  have key2 : ∀ (n : Nat) (x1 y : Int32) (ci1 ai1 : Nat → Nat → Int32) (al1 : Nat → Nat → Int64), (x1.toInt - y.toInt).toNat < n → 0 ≤ y.toInt → CI sh ci1 ai1 → Kt sh rk (rk q) ci1 ai1 Q → P_X7_sortPlaces_39 sh Gr Gw Q q n ci1 ai1 al1 x1 y := by
    intro n
    induction n with
    | zero => intro x1 y ci1 ai1 al1 hn; exact absurd hn (Nat.not_lt_zero _)
    | succ n ih =>
      intro x1 y ci1 ai1 al1 hn y0 c1 K1
      refine ⟨fun _ => K1 _ _ _ _ r8_1 c1 Rel.rf, fun hy => ⟨fun e => absurd (hb.symm.trans e) (by simp), fun c hc => ?_⟩⟩
      obtain rfl : c = b := Option.some.inj (hc.symm.trans hb)
      have hi := incLt hy
      refine ⟨⟨b1, b2⟩, fun _ => K1 _ _ _ _ r8_1 c1 Rel.rf, fun hl => ok_insertPlace hw hq h6 hb y0 ?_ c1 (fun ai' c' R' => ih _ _ _ _ _ ?_ ?_ c' (K1.to (R' _)))⟩
      · obtain ⟨j, hj, e, -⟩ := pk_mu (x := y) (L := sN sh c) (fun h => by have := Int32.lt_iff_toInt_lt.mp h; simp at this; omega) hl (by omega)
        rw [e, nI_toInt (by omega)]; omega
      · omega
      · omega
  have key : ∀ (n : Nat) (x1 y : Int32) (ci1 ai1 : Nat → Nat → Int32) (al1 : Nat → Nat → Int64), (x1.toInt - y.toInt).toNat < n → CI sh ci1 ai1 → Kt sh rk (rk q) ci1 ai1 Q → P_X7_sortPlaces_10 sh Gr Gw Q q n ci1 ai1 al1 x1 y := by
    intro n
    induction n with
    | zero => intro x1 y ci1 ai1 al1 hn; exact absurd hn (Nat.not_lt_zero _)
    | succ n ih =>
      intro x1 y ci1 ai1 al1 hn c1 K1
      refine ⟨fun _ => ⟨_, key2 _ _ _ _ _ _ (Nat.lt_succ_self _) (by decide) c1 K1⟩, fun hy => ⟨z, hz5, hzl, (hL z hzl hzr _ _ _ _ _ c1 (fun r5 c5 a5 l5 e1 e2 e3 => ⟨fun _ => ih _ _ _ _ _ ?_ e2 (K1.to e3), fun _ => K1 _ _ _ _ e1 e2 e3⟩)).2⟩⟩
      have := incLt hy
      omega
  exact ⟨⟨hq, h6⟩, z, hz5, hzl, ok_there hzl (fun r => ⟨_, key _ _ _ _ _ _ (Nat.lt_succ_self _) h hK⟩)⟩
theorem ok_seek10 (hw : Wf sh rk) (hL : Low sh rk (rk q) Gr Gw) (hq : q ∈ sL sh) (h9 : sK sh q = 9) (h : CI sh ci ai) (hK : Kt sh rk (rk q) ci ai Q) : P_X10_seek sh Gr Gw ci ai al q k Q := by
  have hz : LZ sh q := LZ.of hq h9 (by decide)
  obtain ⟨z, hz5, hzl, hzr⟩ := hw.of hz (by omega) (by omega)
  obtain ⟨b, hb, b1, b2, b3⟩ := (hw q hz).2.2.2.2.2.2.2.2.1 h9
  refine ⟨⟨hq, h9⟩, fun _ => hK _ _ _ _ r8_3 h Rel.rf, fun h0 => ⟨b, hb, ⟨b1, b2⟩, fun hl => ?_, fun _ => hK _ _ _ _ r8_3 h Rel.rf⟩⟩
  have hin : vp_in k (sN sh b) := vin' h0 hl b3
  have key : ∀ (n : Nat) (x : Int32) (ci1 ai1 : Nat → Nat → Int32) (al1 : Nat → Nat → Int64), (401 - x.toInt).toNat < n → CI sh ci1 ai1 → Kt sh rk (rk q) ci1 ai1 Q → P_X10_seek_34 sh Gr Gw Q q n ci1 ai1 al1 k x := by
    intro n
    induction n with
    | zero => intro x ci1 ai1 al1 hn; exact absurd hn (Nat.not_lt_zero _)
    | succ n ih =>
      intro x ci1 ai1 al1 hn c1 K1
      refine ⟨fun _ => K1 _ _ _ _ r8_3 c1 Rel.rf, fun hx => ⟨z, hz5, hzl, (hL z hzl hzr _ _ _ _ _ c1 (fun r5 c5 a5 l5 e1 e2 e3 => ⟨fun _ => ?_, fun _ => K1 _ _ _ _ e1 e2 e3⟩)).1⟩⟩
      refine (hL z hzl hzr _ _ _ _ _ e2 (fun r6 c6 a6 l6 f1 f2 f3 => ?_)).2
      have fin : ∃ q7 : Nat, sR sh q 8 = some q7 ∧ (q7 ∈ sL sh ∧ sK sh q7 = 20) ∧ vp_in k (sN sh q7) ∧ Q r6 c6 (va_up a6 q7 (upd (a6 q7) k.toNatClampNeg x)) l6 := ⟨b, hb, ⟨b1, b2⟩, hin, K1 _ _ _ _ f1 (f2.arr b2) ((e3.tr f3).tr (Rel.arr b2))⟩
      refine ⟨fun _ => fin, fun _ => ok_number30 hw hzl (fun r12 => ok_lets hw hq h9 ⟨fun _ => ih _ _ _ _ ?_ f2 ((K1.to e3).to f3), fun h => absurd rfl h⟩ ⟨fun h => absurd h (by decide), fun _ => fin⟩)⟩
      have := inc400 hx
      omega
  refine ⟨fun hne => ⟨?_, fun z6 _ => ⟨_, key _ _ _ _ _ (Nat.lt_succ_self _) h hK⟩⟩, fun _ => ⟨_, key _ _ _ _ _ (Nat.lt_succ_self _) h hK⟩⟩
  obtain ⟨j, hj, e⟩ := vp_in_of hin (by omega)
  subst e
  have hj0 : 0 < j := Nat.pos_of_ne_zero (fun e => hne (by rw [e]; rfl))
  rw [show (1 : Int32) = nI 1 from rfl, pk_sub (by omega)]
  exact vp_in_nI (by omega) (by omega)
theorem ok_seek (hw : Wf sh rk) (hL : Low sh rk (rk q) Gr Gw) (hq : LZ sh q) (h : CI sh ci ai) (hK : Kt sh rk (rk q) ci ai Q) : P_V_seek sh Gr Gw ci ai al q k Q := by
  have hof := fun h0 h3 => hw.of hq h0 h3
  have st : ∀ {y : Int32} {al' : Nat → Nat → Int64}, r8 y → Q y ci ai al' := fun hy => hK _ _ _ _ hy h Rel.rf
  refine ⟨fun e => ?_, fun e => ?_, fun e => ?_, fun e => ?_, fun e => ?_, fun e => ?_, fun e => ?_, fun e => ?_, fun e => ok_seek10 hw hL hq.1 e h hK⟩
  · refine ⟨⟨hq.1, e⟩, fun _ => st r8_1, fun z hz => ⟨fun _ => ?_, fun _ => st r8_1⟩⟩
    obtain ⟨z1, z2⟩ := hw.low hq (Or.inl ⟨rfl, Or.inl e⟩) hz
    exact ⟨z1, (hL z z1 z2 _ _ _ _ _ h hK).1⟩
  · obtain ⟨z, hz, z1, z2⟩ := hof (by omega) (by omega)
    refine ⟨⟨hq.1, e⟩, z, hz, z1, (hL z z1 z2 _ _ _ _ _ h (fun r5 c5 a5 l5 e1 e2 e3 => ⟨fun _ => hK _ _ _ _ e1 e2 e3, fun _ => ⟨fun _ => hK _ _ _ _ e1 e2 e3, fun y hy => ?_⟩⟩)).1⟩
    obtain ⟨y1, y2⟩ := hw.low hq (Or.inr ⟨rfl, Or.inl e⟩) hy
    exact ⟨y1, (hL y y1 y2 _ _ _ _ _ e2 (hK.to e3)).1⟩
  · obtain ⟨z, hz, z1, z2⟩ := hof (by omega) (by omega)
    refine ⟨⟨hq.1, e⟩, fun _ => ⟨z, hz, z1, (hL z z1 z2 _ _ _ _ _ h (fun r5 c5 a5 l5 e1 e2 e3 => ⟨fun _ => hK _ _ _ _ e1 e2 e3, fun _ => ⟨fun _ => ?_, fun _ => hK _ _ _ _ e1 e2 e3⟩⟩)).1⟩, fun _ => st r8_2⟩
    exact (hL z z1 z2 _ _ _ _ _ e2 (fun r6 c6 a6 l6 f1 f2 f3 => ⟨fun _ => ok_number30 hw z1 (fun r7 => ok_meets ⟨fun _ => hK _ _ _ _ r8_2 f2 (e3.tr f3), fun h => absurd rfl h⟩ ⟨fun h => absurd h (by decide), fun _ => hK _ _ _ _ r8_1 f2 (e3.tr f3)⟩), fun _ => hK _ _ _ _ f1 f2 (e3.tr f3)⟩)).2
  · obtain ⟨b, hb, b1, b2, b3⟩ := (hw q hq).2.2.2.2.2.1 e
    exact ⟨⟨hq.1, e⟩, b, hb, ⟨b1, b2⟩, fun _ => st (h.2.2.1 q hq.1 e), fun _ => st r8_1⟩
  · obtain ⟨z, hz, z1, z2⟩ := hof (by omega) (by omega)
    refine ⟨⟨hq.1, e⟩, z, hz, z1, (hL z z1 z2 _ _ _ _ _ h (fun r5 c5 a5 l5 e1 e2 e3 => ⟨fun _ => ⟨fun _ => ok_there z1 (fun r => ⟨fun _ => hK _ _ _ _ r8_1 e2 e3, fun _ => hK _ _ _ _ r8_6 e2 e3⟩), fun y hy => ok_there z1 (fun r => ?_)⟩, fun _ => hK _ _ _ _ e1 e2 e3⟩)).1⟩
    obtain ⟨y1, y2⟩ := hw.low hq (Or.inr ⟨rfl, Or.inr e⟩) hy
    exact ⟨y1, (hL y y1 y2 _ _ _ _ _ e2 (hK.to e3)).1⟩
  · obtain ⟨z, hz, z1, z2⟩ := hof (by omega) (by omega)
    refine ⟨⟨hq.1, e⟩, fun _ => ⟨z, hz, z1, ok_there z1 (fun r => ⟨fun _ => st r8_2, fun _ => st r8_1⟩)⟩, fun _ => ⟨z, hz, z1, z1, (hL z z1 z2 _ _ _ _ _ h (fun r5 c5 a5 l5 e1 e2 e3 => ⟨fun _ => ⟨fun _ => ok_there z1 (fun r => ⟨fun _ => hK _ _ _ _ r8_2 e2 e3, fun _ => hK _ _ _ _ r8_1 e2 e3⟩), fun b hb => ?_⟩, fun _ => hK _ _ _ _ e1 e2 e3⟩)).1⟩⟩
    exact ok_sortPlaces hw hL hq.1 e hb e2 (fun r6 c6 a6 l6 f1 f2 f3 => ⟨fun _ => ok_there z1 (fun r => ⟨fun _ => hK _ _ _ _ r8_2 f2 (e3.tr f3), fun _ => hK _ _ _ _ r8_1 f2 (e3.tr f3)⟩), fun _ => hK _ _ _ _ f1 f2 (e3.tr f3)⟩)
  · obtain ⟨z, hz, z1, z2⟩ := hof (by omega) (by omega)
    exact ⟨⟨hq.1, e⟩, fun _ => ⟨z, hz, z1, (hL z z1 z2 _ _ _ _ _ h hK).1⟩, fun _ => ⟨fun _ => ⟨z, hz, z1, (hL z z1 z2 _ _ _ _ _ h hK).1⟩, fun _ => ok_findStart hw hL hq.1 e h hK⟩⟩
  · obtain ⟨z, hz, z1, z2⟩ := hof (by omega) (by omega)
    obtain ⟨b, hb, b1, b2, b3⟩ := (hw q hq).2.2.2.2.2.2.2.1 e
    refine ⟨⟨hq.1, e⟩, fun hne => ⟨fun _ => st r8_3, fun h0 => ⟨b, hb, ⟨b1, b2⟩, fun hl => ?_, fun _ => st r8_3⟩⟩, fun _ => ⟨z, hz, z1, (hL z z1 z2 _ _ _ _ _ h hK).1⟩⟩
    have hin : vp_in k (sN sh b) := vin' h0 hl b3
    refine ⟨?_, ok_lookThrough hw hL hq.1 e h (fun r6 c6 a6 l6 f1 f2 f3 => ⟨hin, hK _ _ _ _ f1 (f2.arr b2) (f3.tr (Rel.arr b2))⟩)⟩
    obtain ⟨j, hj, ej⟩ := vp_in_of hin (by omega)
    subst ej
    have hj0 : 0 < j := Nat.pos_of_ne_zero (fun e => hne (by rw [e]; rfl))
    rw [show (1 : Int32) = nI 1 from rfl, pk_sub (by omega)]
    exact vp_in_nI (by omega) (by omega)
end CS2
