section MC
variable {v v1 : Nat → Int32} {w : Nat → Int64} {fi : Nat → Nat → Int32} {fl : Nat → Nat → Int64} {n a b k l t j lim : Nat} {s p0 p3 p4 : Int32} {y y2 : Int64} {Q : Int32 → MT}
/-- of kinds that ask nothing -/
theorem dq_o {y x : Nat} (ht : t = 1 ∨ t = 2) : Dq fi l k t y x := ⟨fun e => by omega, fun e => by omega, fun e => by omega, fun e => by omega, fun e => by omega, fun e => by omega, fun e => by omega⟩
theorem kd_ne {u : Nat} (hu : u < 20) (h : Kd fi l t) (hne : ¬ t = u) : ¬ fi 1 l = nI u := fun e => hne (nI_inj (by have := h.1; omega) (by omega) (h.2.1.symm.trans e))
theorem kd_eq {u : Nat} (hu : u < 20) (h : Kd fi l t) (e : fi 1 l = nI u) : t = u := nI_inj (by have := h.1; omega) (by omega) (h.2.1.symm.trans e)
theorem mn_lookAtCell (I : IM fi n) (hl : l < n) (hk : k < 400) (hkd : Kd fi l t) (ht : ∀ i, i < k → TH fi l i) (hK : KC fi fl n l k t v Q) : P_X12_lookAtCell v w fi fl (nI l) (nI k) Q := by
  have hn := I.1
  have hv : vp_in (nI l) 24 := vp_in_nI (by omega) (by decide)
  obtain ⟨t16, e1, c2, c3, c0, c4⟩ := id hkd
  have main : vp_in (nI l) 24 ∧ vp_in (nI l) 24 ∧ True := ⟨hv, hv, trivial⟩
  have key : ∀ (f i : Nat), k - i < f → i ≤ k → P_X12_lookAtCell_12 Q f v w fi fl (nI l) (nI k) (nI i) := by
    intro f
    induction f with
    | zero => intro i hf; exact absurd hf (Nat.not_lt_zero _)
    | succ f ih =>
      intro i hf hi
      unfold P_X12_lookAtCell_12 B_X12_lookAtCell_12
      rw [nI_clamp (n := l) (by omega)]
      refine ⟨fun _ => ⟨hv, hv, fun h => ?_, fun _ => ⟨fun h => ?_, fun _ => ⟨fun h => ?_, fun _ => ⟨fun h => ?_, fun _ => ⟨fun h => ?_, fun _ => ⟨fun h => ?_, fun _ => ⟨fun h => ?_, fun _ => ⟨fun h => ?_, fun _ => ⟨fun h => ?_, fun _ => ⟨fun h => ?_, fun _ => ⟨fun h => ?_, fun _ => ⟨fun h => ?_, fun _ => ⟨fun h => ?_, fun _ => ⟨fun h => ?_, fun _ => ⟨fun h => ?_, fun _ => ⟨fun h => ?_, fun _ => ⟨fun h => ?_, fun h16 => ?_⟩⟩⟩⟩⟩⟩⟩⟩⟩⟩⟩⟩⟩⟩⟩⟩⟩, fun hlt => ?_⟩
      · obtain rfl : t = 0 := kd_eq (by decide) hkd h
        obtain ⟨a, a1, a2⟩ := c0 rfl
        rw [a2]
        refine ⟨fun _ => ⟨hv, fun _ => mn_as hK (fun e => absurd e (by decide)), fun _ => mn_as hK (fun e => absurd e (by decide))⟩, fun h => mn_as hK (fun _ => ⟨fun _ => ⟨a, a2, a1, ?_⟩, fun e => absurd e (by decide), fun e => absurd e (by decide), fun e => absurd e (by decide), fun e => absurd e (by decide), fun e => absurd e (by decide), fun e => absurd e (by decide)⟩)⟩
        rcases Nat.lt_or_ge k a with e | e
        · exact e
        · exact absurd (nI_le e (by omega)) h
      · obtain rfl : t = 1 := kd_eq (by decide) hkd h
        exact mn_as hK (fun _ => dq_o (Or.inl rfl))
      · obtain rfl : t = 2 := kd_eq (by decide) hkd h
        exact mn_as hK (fun _ => dq_o (Or.inr rfl))
      · obtain rfl : t = 3 := kd_eq (by decide) hkd h
        obtain ⟨a, a1, a2⟩ := c2 (by decide)
        rw [a2]
        exact mn_like I hl a1 (by omega) hK (fun _ _ h6 => ⟨fun e => absurd e (by decide), fun _ => ⟨a, a2, a1, h6 _ (Nat.le_refl _)⟩, fun e => absurd e (by decide), fun e => absurd e (by decide), fun e => absurd e (by decide), fun e => absurd e (by decide), fun e => absurd e (by decide)⟩) (fun e => absurd rfl e)
      · obtain rfl : t = 4 := kd_eq (by decide) hkd h
        obtain ⟨a, a1, a2⟩ := c2 (by decide)
        obtain ⟨b, b1, b2⟩ := c3 (by decide)
        rw [a2, b2]
        exact ⟨hv, mn_lookAtBoth I hl hk a1 b1 a2 b2 hK⟩
      · obtain rfl : t = 5 := kd_eq (by decide) hkd h
        obtain ⟨a, a1, a2⟩ := c2 (by decide)
        rw [a2]
        refine ⟨fun hne => ?_, fun he => mn_as hK (fun _ => ⟨fun e => absurd e (by decide), fun e => absurd e (by decide), fun e => absurd e (by decide), fun _ hp => absurd (nI_inj (by omega) (by decide) (he.trans nI_0.symm)) (by omega), fun e => absurd e (by decide), fun e => absurd e (by decide), fun e => absurd e (by decide)⟩)⟩
        have hp : 0 < k := Nat.pos_of_ne_zero (fun e => hne (by rw [e]; rfl))
        rw [show (1 : Int32) = nI 1 from rfl, pk_sub hp]
        exact mn_like I hl a1 (by omega) hK (fun _ _ h6 => ⟨fun e => absurd e (by decide), fun e => absurd e (by decide), fun e => absurd e (by decide), fun _ _ => ⟨a, a2, a1, h6 _ (Nat.le_refl _)⟩, fun e => absurd e (by decide), fun e => absurd e (by decide), fun e => absurd e (by decide)⟩) (fun e => absurd rfl e)
      · obtain rfl : t = 6 := kd_eq (by decide) hkd h
        obtain ⟨a, a1, a2⟩ := c2 (by decide)
        rw [a2]
        exact ⟨hv, fun _ => mn_like I hl a1 (by omega) hK (fun e => absurd e (by decide)) (fun _ _ _ => dq_s (by decide) (by decide) (by decide) (Nat.succ_pos _)), fun _ => mn_as hK (fun e => absurd e (by decide))⟩
      · obtain rfl : t = 7 := kd_eq (by decide) hkd h
        obtain ⟨a, a1, a2⟩ := c2 (by decide)
        obtain ⟨c, b1, b2⟩ := c4 (by decide)
        rw [a2, b2, nI_add]
        exact ⟨hv, mn_like I hl a1 (by omega) hK (fun e => absurd e (by decide)) (fun _ _ _ => dq_s (by decide) (by decide) (by decide) (Nat.succ_pos _))⟩
      · obtain rfl : t = 8 := kd_eq (by decide) hkd h
        obtain ⟨a, a1, a2⟩ := c2 (by decide)
        rw [a2]
        exact mn_lookOn I hl hk a1 ht (by decide) (by decide) (by decide) hK
      · obtain rfl : t = 9 := kd_eq (by decide) hkd h
        obtain ⟨a, a1, a2⟩ := c2 (by decide)
        rw [a2]
        exact mn_lookAtDuring I hl hk a1 hK
      · obtain rfl : t = 10 := kd_eq (by decide) hkd h
        obtain ⟨a, a1, a2⟩ := c2 (by decide)
        rw [a2]
        refine ⟨fun hle => ?_, fun hgt => ?_⟩
        · have hk0 : k = 0 := by
            rcases Nat.eq_zero_or_pos k with e | e
            · exact e
            · exact absurd hle (nI_nle e (by omega))
          subst hk0
          exact mn_lookOn (k := 0) I hl hk a1 ht (by decide) (by decide) (by decide) hK
        · show vp_in ((400 : Int32) * nI l + nI 0) 9600 ∧ P_X12_like v w fi fl (nI a) (fi 11 ((400 : Int32) * nI l + nI 0).toNatClampNeg + nI k) 1 Q
          rw [pl, nI_clamp (n := 400 * l + 0) (by omega)]
          obtain ⟨y, x, h1, h2, h3, h4, h6⟩ := I.2.2.1 l 0 (by omega) (by decide)
          rw [h2, nI_add]
          exact ⟨vp_in_nI (by omega) (by decide), mn_like I hl a1 (by omega) hK (fun e => absurd e (by decide)) (fun _ _ _ => dq_s (by decide) (by decide) (by decide) (Nat.succ_pos _))⟩
      · obtain rfl : t = 11 := kd_eq (by decide) hkd h
        obtain ⟨a, a1, a2⟩ := c2 (by decide)
        obtain ⟨b, b1, b2⟩ := c3 (by decide)
        rw [a2, b2]
        exact ⟨hv, mn_lookAtJoin I hl hk a1 b1 hK⟩
      · obtain rfl : t = 12 := kd_eq (by decide) hkd h
        obtain ⟨a, a1, a2⟩ := c2 (by decide)
        rw [a2]
        exact mn_lookAtRound I hl hk a1 hK
      · obtain rfl : t = 13 := kd_eq (by decide) hkd h
        obtain ⟨a, a1, a2⟩ := c2 (by decide)
        rw [a2]
        exact mn_lookAtAll I hl hk a1 a2 hkd ht (Or.inl rfl) hK
      · obtain rfl : t = 14 := kd_eq (by decide) hkd h
        obtain ⟨a, a1, a2⟩ := c2 (by decide)
        rw [a2]
        exact mn_lookAtAll I hl hk a1 a2 hkd ht (Or.inr rfl) hK
      · obtain rfl : t = 15 := kd_eq (by decide) hkd h
        obtain ⟨a, a1, a2⟩ := c2 (by decide)
        rw [a2]
        exact mn_lookOn I hl hk a1 ht (by decide) (by decide) (by decide) hK
      · obtain rfl : t = 16 := kd_eq (by decide) hkd h
        obtain ⟨a, a1, a2⟩ := c2 (by decide)
        rw [a2]
        refine ⟨fun hne => ?_, fun he => ?_⟩
        · have hp : 0 < k := Nat.pos_of_ne_zero (fun e => hne (by rw [e]; rfl))
          rw [show (1 : Int32) = nI 1 from rfl, pk_sub hp]
          obtain ⟨y, x, q1, q2, q3, q4, D⟩ := I.2.2.2.2.2 l (k - 1) 16 hl (by omega) hkd (ht (k - 1) (by omega))
          obtain ⟨a', r1, r2, r3, r4⟩ := D.2.2.2.2.2.1 rfl
          have haa : a' = a := nI_inj (by omega) (by omega) (r1.symm.trans a2)
          subst haa
          refine mn_lookAtRun (lim := 400 * l + k) I hl (by omega) a1 a2 (by omega) q3 q4 r3 r4 ⟨hK.1, hK.2.1, fun v' w' hs hR => hK.2.2 v' w' hs ?_⟩
          obtain ⟨g1, x', g2, g3, g4⟩ := hR
          exact ⟨0, x', by rw [g1]; decide, g2, g3, Nat.zero_le _, fun h => absurd h (Nat.not_lt_zero _), fun h1 => ⟨fun e => absurd e (by decide), fun e => absurd e (by decide), fun e => absurd e (by decide), fun e => absurd e (by decide), fun e => absurd e (by decide), fun _ => ⟨a', a2, a1, g4 h1, fun e => by omega⟩, fun _ e => absurd rfl e⟩⟩
        · have hk0 : k = 0 := nI_inj (by omega) (by decide) (he.trans nI_0.symm)
          subst hk0
          exact mn_like (kk := 0) I hl a1 (by omega) hK (fun _ _ h6 => ⟨fun e => absurd e (by decide), fun e => absurd e (by decide), fun e => absurd e (by decide), fun e => absurd e (by decide), fun e => absurd e (by decide), fun _ => ⟨a, a2, a1, h6 0 (Nat.le_refl _), fun _ => h6 0 (Nat.le_refl _)⟩, fun _ e => absurd rfl e⟩) (fun e => absurd rfl e)
      · exfalso
        rename_i g0 g1 g2 g3 g4 g5 g6 g7 g8 g9 g10 g11 g12 g13 g14 g15
        have hh : t = 0 ∨ t = 1 ∨ t = 2 ∨ t = 3 ∨ t = 4 ∨ t = 5 ∨ t = 6 ∨ t = 7 ∨ t = 8 ∨ t = 9 ∨ t = 10 ∨ t = 11 ∨ t = 12 ∨ t = 13 ∨ t = 14 ∨ t = 15 ∨ t = 16 := by omega
        rw [e1] at g0 g1 g2 g3 g4 g5 g6 g7 g8 g9 g10 g11 g12 g13 g14 g15 h16
        rcases hh with rfl | rfl | rfl | rfl | rfl | rfl | rfl | rfl | rfl | rfl | rfl | rfl | rfl | rfl | rfl | rfl | rfl
        · exact g0 rfl
        · exact g1 rfl
        · exact g2 rfl
        · exact g3 rfl
        · exact g4 rfl
        · exact g5 rfl
        · exact g6 rfl
        · exact g7 rfl
        · exact g8 rfl
        · exact g9 rfl
        · exact g10 rfl
        · exact g11 rfl
        · exact g12 rfl
        · exact g13 rfl
        · exact g14 rfl
        · exact g15 rfl
        · exact h16 rfl
      · have hik : i < k := by
          rcases Nat.lt_or_ge i k with e | e
          · exact e
          · exact absurd (nI_le e (by omega)) hlt
        unfold P_X12_place
        rw [pl]
        dsimp only
        rw [nI_clamp (n := 400 * l + i) (by omega)]
        refine ⟨vp_in_nI (by omega) (by decide), fun _ => ?_, fun h0 => ?_⟩
        · rw [nIs]; exact ih (i + 1) (by omega) (by omega)
        · have := ht i hik
          rw [TH, h0] at this
          exact absurd this (by decide)
  exact ⟨fun _ => ⟨_, key _ 0 (Nat.lt_succ_self _) (Nat.zero_le _)⟩, fun h => absurd (nI_lt (a := k) (b := 400) hk (by decide)) h⟩
end MC
