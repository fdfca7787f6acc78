section MS
variable {v v1 : Nat → Int32} {w : Nat → Int64} {fi fi' : Nat → Nat → Int32} {fl : Nat → Nat → Int64} {n a b k l t j lim : Nat} {s p0 p3 p4 : Int32} {y y2 : Int64} {Q : Int32 → MT}
theorem pl100 {a j : Nat} : (100 : Int32) * nI a + nI j = nI (100 * a + j) := by
  rw [show (100 : Int32) = nI 100 from rfl, pk_mul, nI_add]
theorem mn_lookAtItem (I : IM fi n) (hl : l < n) (hk : k < 400) (hth : TH fi l k) (h10 : fi 10 (400 * l + k) = 0) (hK : KI fi fl n (400 * l + k) v Q) : P_X12_lookAtItem v w fi fl (nI l) (nI k) Q := by
  have hn := I.1
  have hv : vp_in (nI l) 24 := vp_in_nI (by omega) (by decide)
  obtain ⟨t, hkd⟩ := I.2.1 l hl
  obtain ⟨yy, x, q1, q2, q3, q4, D⟩ := I.2.2.2.2.2 l k t hl hk hkd hth
  have hy0 : yy = 0 := nI_inj (by omega) (by decide) (q1.symm.trans (h10.trans nI_0.symm))
  have before : ∀ i, i < k → TH fi l i := I.2.2.2.1 l k hl hk (by rw [TH] at hth; rw [hth]; decide)
  have is1 : ∀ {w' : Nat → Int64} {z : Int64}, P_X12_is v w' fi fl z Q := fun {w' z} => hK.2.2 _ _ (Sc.rf.up (by decide))
  unfold P_X12_lookAtItem
  rw [nI_clamp (n := l) (by omega)]
  refine ⟨hv, hv, fun h => ?_, fun g0 => ⟨fun h => ?_, fun g1 => ⟨fun h => ?_, fun g2 => ⟨fun h => ?_, fun g3 => ⟨fun h => ?_, fun g4 => ⟨fun h => ?_, fun g5 => ?_⟩⟩⟩⟩⟩⟩
  · obtain rfl : t = 0 := kd_eq (by decide) hkd h
    obtain ⟨a, a1, a2, a3⟩ := D.1 rfl
    rw [pl100, nI_clamp (n := 100 * l + k) (by omega)]
    have hv2 : vp_in (nI (100 * l + k)) 2400 := vp_in_nI (by omega) (by decide)
    exact ⟨hv2, hv2, hK.2.2 _ _ (Sc.rf.up (by decide))⟩
  · exact ⟨hv, hv, fun z _ => hK.2.2 _ _ (Sc.rf.up (by decide))⟩
  · refine ⟨fun hne => ⟨hv, hv, ?_⟩, fun _ => ⟨hv, is1⟩⟩
    have hp : 0 < k := Nat.pos_of_ne_zero (fun e => hne (by rw [e]; rfl))
    rw [show (1 : Int32) = nI 1 from rfl, pk_sub hp]
    exact mn_ofItems I hl (by omega) (before _ (by omega)) (by omega) (Or.inl rfl) hK
  · obtain rfl : t = 3 := kd_eq (by decide) hkd h
    obtain ⟨a, a1, a2, a3⟩ := D.2.1 rfl
    rw [a1]
    exact ⟨hv, hv, mn_ofItems I (by omega) hk a3 (by omega) (Or.inl rfl) hK⟩
  · obtain rfl : t = 4 := kd_eq (by decide) hkd h
    obtain ⟨a, b, a1, a2, b1, b2, a3, b3⟩ := D.2.2.1 rfl
    rw [a1, b1]
    exact ⟨hv, hv, mn_ofItems I (by omega) hk a3 (by omega) (Or.inr ⟨b, k, rfl, rfl, by omega, hk, b3, by omega⟩) hK⟩
  · obtain rfl : t = 5 := kd_eq (by decide) hkd h
    refine ⟨fun hne => ⟨hv, ?_⟩, fun _ => ⟨hv, is1⟩⟩
    have hp : 0 < k := Nat.pos_of_ne_zero (fun e => hne (by rw [e]; rfl))
    obtain ⟨a, a1, a2, a3⟩ := D.2.2.2.1 rfl hp
    rw [a1, show (1 : Int32) = nI 1 from rfl, pk_sub hp]
    exact mn_ofItems I hl (by omega) (before _ (by omega)) (by omega) (Or.inr ⟨a, k - 1, rfl, rfl, by omega, by omega, a3, by omega⟩) hK
  · have ht5 : ¬ t ≤ 5 := fun h => by
      rw [hkd.2.1] at g0 g1 g2 g3 g4 g5
      rcases (show t = 0 ∨ t = 1 ∨ t = 2 ∨ t = 3 ∨ t = 4 ∨ t = 5 by omega) with rfl | rfl | rfl | rfl | rfl | rfl
      · exact g0 rfl
      · exact g1 rfl
      · exact g2 rfl
      · exact g3 rfl
      · exact g4 rfl
      · exact g5 rfl
    have ht16 : t = 16 := by
      by_cases e : t = 16
      · exact e
      · have := D.2.2.2.2.2.2 (by omega) e
        omega
    subst ht16
    obtain ⟨a, a1, a2, a3, a4⟩ := D.2.2.2.2.2.1 rfl
    exact mn_lookAtRun (lim := 400 * l + k) I hl hk a2 a1 (by omega) q3 q4 a3 a4 ⟨fun v' w' hs => ⟨fun e => absurd e (by decide), fun _ => hK.1 _ _ hs⟩, fun v' w' r hs hN => ⟨fun e => absurd e (hN.ne hn).1, fun _ => hK.2.1 _ _ _ hs hN⟩, fun v' w' hs _ => ⟨fun _ => ⟨fun _ => hK.2.2 _ _ hs, fun _ => hK.2.2 _ _ (hs.up (by decide))⟩, fun h => absurd rfl h⟩⟩
/-- what a meeting leaves as it was -/
def Mo (fi fi' : Nat → Nat → Int32) : Prop := fi' 1 = fi 1 ∧ fi' 2 = fi 2 ∧ fi' 3 = fi 3 ∧ fi' 4 = fi 4 ∧ ∀ q, ¬ fi 7 q = 0 → fi' 7 q = fi 7 q
theorem Mo.rf : Mo fi fi := ⟨rfl, rfl, rfl, rfl, fun _ _ => rfl⟩
theorem Mo.tr {fi2 : Nat → Nat → Int32} (h : Mo fi fi') (h2 : Mo fi' fi2) : Mo fi fi2 := ⟨h2.1.trans h.1, h2.2.1.trans h.2.1, h2.2.2.1.trans h.2.2.1, h2.2.2.2.1.trans h.2.2.2.1, fun q hq => (h2.2.2.2.2 q (by rw [h.2.2.2.2 q hq]; exact hq)).trans (h.2.2.2.2 q hq)⟩
theorem Mo.th (h : Mo fi fi') (ht : TH fi l k) : TH fi' l k := by
  unfold TH at *
  rw [h.2.2.2.2 _ (by rw [ht]; decide)]; exact ht
theorem Mo.dq {y x : Nat} (h : Mo fi fi') (hd : Dq fi l k t y x) : Dq fi' l k t y x := by
  obtain ⟨d0, d3, d4, d5, d13, d16, ds⟩ := hd
  unfold Dq
  rw [h.2.1, h.2.2.1]
  refine ⟨d0, fun e => ?_, fun e => ?_, fun e hp => ?_, fun e => ?_, fun e => ?_, ds⟩
  · obtain ⟨a, a1, a2, a3⟩ := d3 e
    exact ⟨a, a1, a2, h.th a3⟩
  · obtain ⟨a, b, a1, a2, a3, a4, a5, a6⟩ := d4 e
    exact ⟨a, b, a1, a2, a3, a4, h.th a5, h.th a6⟩
  · obtain ⟨a, a1, a2, a3⟩ := d5 e hp
    exact ⟨a, a1, a2, h.th a3⟩
  · obtain ⟨a, e', a1, a2, a3, a4, a5⟩ := d13 e
    exact ⟨a, e', a1, a2, a3, a4, by rw [h.2.2.2.2 _ (by rw [a5]; decide)]; exact a5⟩
  · obtain ⟨a, a1, a2, a3, a4⟩ := d16 e
    exact ⟨a, a1, a2, h.th a3, fun e0 => h.th (a4 e0)⟩
theorem Mo.kd (h : Mo fi fi') : Kd fi' l t ↔ Kd fi l t := by
  unfold Kd
  rw [h.1, h.2.1, h.2.2.1, h.2.2.2.1]
/-- a cell is met -/
theorem IM.set {y x : Nat} (I : IM fi n) (hl : l < n) (hk : k < 400) (h0 : fi 7 (400 * l + k) = 0) (hb : ∀ i, i < k → TH fi l i) (hkd : Kd fi l t) (hx : x < 400) (hy : y ≤ l) (hyt : 0 < y → TH fi (y - 1) x) (hd : s = 1 → Dq fi l k t y x)
    (e1 : fi' 1 = fi 1) (e2 : fi' 2 = fi 2) (e3 : fi' 3 = fi 3) (e4 : fi' 4 = fi 4) (e7 : fi' 7 = upd (fi 7) (400 * l + k) s) (e10 : fi' 10 = upd (fi 10) (400 * l + k) (nI y)) (e11 : fi' 11 = upd (fi 11) (400 * l + k) (nI x)) : IM fi' n ∧ Mo fi fi' := by
  have M : Mo fi fi' := ⟨e1, e2, e3, e4, fun q hq => by rw [e7]; exact pk_un (fun e => hq (by rw [e]; exact h0))⟩
  have hn := I.1
  obtain ⟨i0, i1, i2, i3, i4, i5⟩ := I
  have ne : ∀ {l' k' : Nat}, k' < 400 → ¬ (l' = l ∧ k' = k) → 400 * l' + k' ≠ 400 * l + k := fun h h2 e => h2 ⟨by omega, by omega⟩
  refine ⟨⟨i0, fun l' h => ?_, fun l' k' h1 h2 => ?_, fun l' k' h1 h2 h3 j hj => ?_, fun l' k' h1 h2 h3 => ?_, fun l' k' t' h1 h2 h3 h4 => ?_⟩, M⟩
  · obtain ⟨t', h'⟩ := i1 l' h
    exact ⟨t', M.kd.mpr h'⟩
  · by_cases e : l' = l ∧ k' = k
    · obtain ⟨rfl, rfl⟩ := e
      exact ⟨y, x, by rw [e10]; exact pk_us, by rw [e11]; exact pk_us, hx, hy, fun hp => M.th (hyt hp)⟩
    · obtain ⟨y', x', g1, g2, g3, g4, g5⟩ := i2 l' k' h1 h2
      exact ⟨y', x', by rw [e10, pk_un (ne h2 e)]; exact g1, by rw [e11, pk_un (ne h2 e)]; exact g2, g3, g4, fun hp => M.th (g5 hp)⟩
  · by_cases e : l' = l ∧ k' = k
    · obtain ⟨rfl, rfl⟩ := e
      exact M.th (hb j hj)
    · rw [e7, pk_un (ne h2 e)] at h3
      exact M.th (i3 l' k' h1 h2 h3 j hj)
  · rw [e7, pk_un (ne h2 (fun e => by omega))]; exact i4 l' k' h1 h2 h3
  · have h3' := M.kd.mp h3
    by_cases e : l' = l ∧ k' = k
    · obtain ⟨rfl, rfl⟩ := e
      have htt : t' = t := nI_inj (by have := h3'.1; omega) (by have := hkd.1; omega) (h3'.2.1.symm.trans hkd.2.1)
      subst htt
      rw [TH, e7, pk_us] at h4
      exact ⟨y, x, by rw [e10]; exact pk_us, by omega, by rw [e11]; exact pk_us, hx, M.dq (hd h4)⟩
    · have h4' : TH fi l' k' := by
        rw [TH, e7, pk_un (ne h2 e)] at h4; exact h4
      obtain ⟨y', x', g1, g2, g3, g4, g5⟩ := i5 l' k' t' h1 h2 h3' h4'
      exact ⟨y', x', by rw [e10, pk_un (ne h2 e)]; exact g1, g2, by rw [e11, pk_un (ne h2 e)]; exact g3, g4, M.dq g5⟩
theorem IM.cg (I : IM fi n) (e1 : fi' 1 = fi 1) (e2 : fi' 2 = fi 2) (e3 : fi' 3 = fi 3) (e4 : fi' 4 = fi 4) (e7 : fi' 7 = fi 7) (e10 : fi' 10 = fi 10) (e11 : fi' 11 = fi 11) : IM fi' n := by
  unfold IM Kd Dp Dq TH at *
  rw [e1, e2, e3, e4, e7, e10, e11]
  exact I
end MS
