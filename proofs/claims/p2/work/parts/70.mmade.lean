section MD
variable {v v1 : Nat → Int32} {w : Nat → Int64} {fi fi' : Nat → Nat → Int32} {fl : Nat → Nat → Int64} {n m u a b k l t j : Nat} {r s p0 p1 p2 p3 : Int32} {y z : Int64}
theorem IM.more (I : IM fi n) (hn : n < 24) (e1 : fi' 1 = upd (fi 1) n p0) (e2 : fi' 2 = upd (fi 2) n p1) (e3 : fi' 3 = upd (fi 3) n p2) (e4 : fi' 4 = upd (fi 4) n p3) (e7 : fi' 7 = fi 7) (e10 : fi' 10 = fi 10) (e11 : fi' 11 = fi 11)
    (ht : t ≤ 16) (h0 : p0 = nI t) (h1 : 2 < t → ∃ a, a < n ∧ p1 = nI a) (h2 : t = 4 ∨ t = 11 → ∃ b, b < n ∧ p2 = nI b) (h3 : t = 0 → ∃ a, a ≤ 100 ∧ p1 = nI a) (h4 : t = 6 ∨ t = 7 → ∃ c, c ≤ 400 ∧ p3 = nI c) : IM fi' (n + 1) := by
  obtain ⟨i0, i1, i2, i3, i4, i5⟩ := I
  have kd : ∀ {l t : Nat}, l < n → (Kd fi' l t ↔ Kd fi l t) := fun {l t} hl => by
    have hne : l ≠ n := by omega
    unfold Kd
    rw [e1, e2, e3, e4, pk_un hne, pk_un hne, pk_un hne, pk_un hne]
  have th : ∀ {l k : Nat}, TH fi' l k ↔ TH fi l k := fun {l k} => by unfold TH; rw [e7]
  refine ⟨by omega, fun l hl => ?_, fun l k hl hk => ?_, fun l k hl hk hne j hj => ?_, fun l k hl hk hnl => ?_, fun l k t' hl hk hkd hth => ?_⟩
  · by_cases e : l = n
    · subst e
      refine ⟨t, ht, by rw [e1, pk_us]; exact h0, fun h => ?_, fun h => ?_, fun h => ?_, fun h => ?_⟩
      · rw [e2, pk_us]; exact h1 h
      · rw [e3, pk_us]; exact h2 h
      · rw [e2, pk_us]; exact h3 h
      · rw [e4, pk_us]; exact h4 h
    · obtain ⟨t', h'⟩ := i1 l (by omega)
      exact ⟨t', (kd (by omega)).mpr h'⟩
  · obtain ⟨y, x, g1, g2, g3, g4, g5⟩ := i2 l k hl hk
    exact ⟨y, x, by rw [e10]; exact g1, by rw [e11]; exact g2, g3, g4, fun hp => th.mpr (g5 hp)⟩
  · rw [e7] at hne
    by_cases e : l = n
    · exact absurd (i4 l k (by omega) hk (by omega)) hne
    · exact th.mpr (i3 l k (by omega) hk hne j hj)
  · rw [e7]; exact i4 l k hl hk (by omega)
  · have hth' := th.mp hth
    by_cases e : l = n
    · have := i4 l k (by omega) hk (by omega)
      rw [TH, this] at hth'
      exact absurd hth' (by decide)
    · have hne : l ≠ n := e
      obtain ⟨y, x, g1, g2, g3, g4, g5⟩ := i5 l k t' (by omega) hk ((kd (by omega)).mp hkd) hth'
      refine ⟨y, x, by rw [e10]; exact g1, g2, by rw [e11]; exact g3, g4, ?_⟩
      unfold Dq at g5 ⊢
      unfold TH at g5 ⊢
      rw [e2, e3, e7, pk_un hne, pk_un hne]
      exact g5
theorem mn_made {Q : Int32 → MT} (h : RI v fi n m u) (hn : n < 24) (ht : t ≤ 16) (h0 : p0 = nI t) (h1 : 2 < t → ∃ a, a < n ∧ p1 = nI a) (h2 : t = 4 ∨ t = 11 → ∃ b, b < n ∧ p2 = nI b) (h3 : t = 0 → ∃ a, a ≤ 100 ∧ p1 = nI a) (h4 : t = 6 ∨ t = 7 → ∃ c, c ≤ 400 ∧ p3 = nI c)
    (hQ : ∀ v' fi' fl', RI v' fi' (n + 1) m u → v' 19 = v 19 → Q (nI n) v' w fi' fl') : P_X12_made v w fi fl p0 p1 p2 p3 y z Q := by
  have hv : vp_in (v 0) 24 := by rw [h.2.1]; exact vp_in_nI hn (by decide)
  refine ⟨hv, hv, hv, hv, hv, hv, ?_⟩
  rw [h.2.1, nI_clamp (n := n) (by omega), nIs, nI_pred]
  refine hQ _ _ _ ⟨IM.more h.1 hn ?_ ?_ ?_ ?_ ?_ ?_ ?_ ht h0 h1 h2 h3 h4, va_self, (va_up_ne _ _ (by decide)).trans h.2.2.1, h.2.2.2.1, (va_up_ne _ _ (by decide)).trans h.2.2.2.2.1, h.2.2.2.2.2⟩ (va_up_ne _ _ (by decide))
  · rw [va_up_ne _ _ (by decide : (1 : Nat) ≠ 4), va_up_ne _ _ (by decide : (1 : Nat) ≠ 3), va_up_ne _ _ (by decide : (1 : Nat) ≠ 2), va_self]
  · rw [va_up_ne _ _ (by decide : (2 : Nat) ≠ 4), va_up_ne _ _ (by decide : (2 : Nat) ≠ 3), va_self, va_up_ne _ _ (by decide : (2 : Nat) ≠ 1)]
  · rw [va_up_ne _ _ (by decide : (3 : Nat) ≠ 4), va_self, va_up_ne _ _ (by decide : (3 : Nat) ≠ 2), va_up_ne _ _ (by decide : (3 : Nat) ≠ 1)]
  · rw [va_self, va_up_ne _ _ (by decide : (4 : Nat) ≠ 3), va_up_ne _ _ (by decide : (4 : Nat) ≠ 2), va_up_ne _ _ (by decide : (4 : Nat) ≠ 1)]
  · rw [va_up_ne _ _ (by decide : (7 : Nat) ≠ 4), va_up_ne _ _ (by decide : (7 : Nat) ≠ 3), va_up_ne _ _ (by decide : (7 : Nat) ≠ 2), va_up_ne _ _ (by decide : (7 : Nat) ≠ 1)]
  · rw [va_up_ne _ _ (by decide : (10 : Nat) ≠ 4), va_up_ne _ _ (by decide : (10 : Nat) ≠ 3), va_up_ne _ _ (by decide : (10 : Nat) ≠ 2), va_up_ne _ _ (by decide : (10 : Nat) ≠ 1)]
  · rw [va_up_ne _ _ (by decide : (11 : Nat) ≠ 4), va_up_ne _ _ (by decide : (11 : Nat) ≠ 3), va_up_ne _ _ (by decide : (11 : Nat) ≠ 2), va_up_ne _ _ (by decide : (11 : Nat) ≠ 1)]
end MD
