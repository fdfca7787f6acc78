section MF
variable {v v1 : Nat → Int32} {w : Nat → Int64} {fi fi' : Nat → Nat → Int32} {fl : Nat → Nat → Int64} {n m u a b k l t j : Nat} {r s c p0 p1 p2 p3 : Int32} {y z : Int64} {Q : Int32 → MT}
theorem RI.arr {i : Nat} {f : Nat → Int32} (h : RI v fi n m u) (hi : 11 < i) : RI v (va_up fi i f) n m u := by
  have e : ∀ k, k ≤ 11 → va_up fi i f k = fi k := fun k hk => va_up_ne _ _ (by omega)
  exact ⟨h.1.cg (e _ (by decide)) (e _ (by decide)) (e _ (by decide)) (e _ (by decide)) (e _ (by decide)) (e _ (by decide)) (e _ (by decide)), h.2⟩
theorem RI.rowUp {x : Int32} {k : Nat} (h : RI v fi n m u) (hk : k ≤ 100) (hx : x = nI k) : RI (va_up v 12 x) fi n k u := ⟨h.1, (va_up_ne _ _ (by decide)).trans h.2.1, va_self.trans hx, hk, (va_up_ne _ _ (by decide)).trans h.2.2.2.2.1, h.2.2.2.2.2⟩
theorem RI.row (h : RI v fi n m u) : (¬ v 12 = 100 → m < 100) ∧ (v 12 = 100 → ¬ m < 100) := by
  have hm := h.2.2.2.1
  rw [h.2.2.1]
  refine ⟨fun e => ?_, fun e hlt => ?_⟩
  · rcases Nat.lt_or_ge m 100 with g | g
    · exact g
    · exact absurd (by rw [show m = 100 by omega]; rfl) e
  · have := nI_inj (a := m) (b := 100) (by omega) (by decide) e
    omega
theorem r_put (h : RI v fi n m u) (hQ : m < 100 → ∀ v' fi' fl', RI v' fi' n (m + 1) u → v' 19 = 0 → Q (nI (m + 1)) v' w fi' fl') (hU : ¬ m < 100 → KF n m u w fi fl 1 Q) : P_X12_put v w fi fl y Q := by
  have h' : RI (va_up v 19 0) fi n m u := h.up (by decide) (by decide) (by decide)
  refine ⟨fun e => ?_, fun e => mn_fail h' (hU (h.row.2 e))⟩
  have hlt := h.row.1 e
  have hv : vp_in (v 12) 100 := by rw [h.2.2.1]; exact vp_in_nI hlt (by decide)
  refine ⟨hv, hv, ?_⟩
  rw [h.2.2.1, nIs]
  exact hQ hlt _ _ _ ((h'.rowUp (by omega) rfl).arr (by decide)) ((va_up_ne _ _ (by decide)).trans va_self)
theorem r_hole (h : RI v fi n m u) (hQ : (p0 = 0 ∨ p0 = 1) → m < 100 → ∀ v' fi' fl', RI v' fi' n (m + 1) u → v' 19 = 0 → Q (nI (m + 1)) v' w fi' fl') (hA : ¬ (p0 = 0 ∨ p0 = 1) → KF n m u w fi fl 1 Q) (hU : (p0 = 0 ∨ p0 = 1) → ¬ m < 100 → KF n m u w fi fl 2 Q) : P_X12_hole v w fi fl p0 Q := by
  have h' : RI (va_up v 19 0) fi n m u := h.up (by decide) (by decide) (by decide)
  refine ⟨fun e0 => ⟨fun e => ?_, fun e => mn_fail h' (hU (Or.inl e0) (h.row.2 e))⟩, fun e0 => ⟨fun e1 => ⟨fun e => ?_, fun e => mn_fail h' (hU (Or.inr e1) (h.row.2 e))⟩, fun e1 => mn_fail h' (hA (fun c => c.elim e0 e1))⟩⟩
  · have hlt := h.row.1 e
    refine ⟨by rw [h.2.2.1]; exact vp_in_nI hlt (by decide), ?_⟩
    rw [h.2.2.1, nIs]
    exact hQ (Or.inl e0) hlt _ _ _ ((h'.rowUp (by omega) rfl).arr (by decide)) ((va_up_ne _ _ (by decide)).trans va_self)
  · have hlt := h.row.1 e
    refine ⟨by rw [h.2.2.1]; exact vp_in_nI hlt (by decide), ?_⟩
    rw [h.2.2.1, nIs]
    exact hQ (Or.inr e1) hlt _ _ _ ((h'.rowUp (by omega) rfl).arr (by decide)) ((va_up_ne _ _ (by decide)).trans va_self)
theorem r_steps (h : RI v fi n m u) (hQ : (¬ p0 < 1 ∧ p0 ≤ 5000) → ∀ v' u', p0 = nI u' → RI v' fi n m u' → v' 19 = 0 → Q (nI u) v' w fi fl) (hA : ¬ (¬ p0 < 1 ∧ p0 ≤ 5000) → KF n m u w fi fl 1 Q) : P_X12_steps v w fi fl p0 Q := by
  have h' : RI (va_up v 19 0) fi n m u := h.up (by decide) (by decide) (by decide)
  refine ⟨fun e => mn_fail h' (hA (fun c => c.1 e)), fun e => ⟨fun e5 => ?_, fun e5 => mn_fail h' (hA (fun c => e5 c.2))⟩⟩
  have h0 : ¬ p0 < 0 := fun g => e (Int32.lt_trans g (by decide))
  obtain ⟨x, hx, rfl⟩ := nI_of2 (n := 5000) (M := 5000) (by decide) h0 e5
  have hx1 : 1 ≤ x := by
    rcases Nat.eq_zero_or_pos x with g | g
    · rw [g] at e; exact absurd (by decide) e
    · exact g
  rw [h.2.2.2.2.1]
  exact hQ ⟨e, e5⟩ _ x rfl ⟨h.1, (va_up_ne _ _ (by decide)).trans h'.2.1, (va_up_ne _ _ (by decide)).trans h'.2.2.1, h.2.2.2.1, va_self, hx1, hx⟩ ((va_up_ne _ _ (by decide)).trans va_self)
theorem r_given (h : RI v fi n m u) (hQ : n < 24 → KS n 0 u w Q) (hU : ¬ n < 24 → KF n m u w fi fl 1 Q) : P_X12_given v w fi fl p0 Q := by
  have h' : RI (va_up v 19 0) fi n m u := h.up (by decide) (by decide) (by decide)
  have hm := h.2.2.2.1
  refine ⟨fun e => ?_, fun e => mn_fail h' (hU (h.room.2 e))⟩
  have hlt := h.room.1 e
  have key : ∀ (f j : Nat) (fi : Nat → Nat → Int32) (fl : Nat → Nat → Int64), m - j < f → j ≤ m → RI (va_up v 19 0) fi n m u → P_X12_given_22 Q f (va_up v 19 0) w fi fl p0 (nI j) := by
    intro f
    induction f with
    | zero => intro j fi fl hf; exact absurd hf (Nat.not_lt_zero _)
    | succ f ih =>
      intro j fi fl hf hj h
      have h2 : RI (va_up (va_up v 19 0) 12 0) fi n 0 u := h.rowUp (by decide) rfl
      have e12 : va_up v 19 0 12 = nI m := h.2.2.1
      have e19 : va_up (va_up v 19 0) 12 0 19 = 0 := (va_up_ne _ _ (by decide)).trans va_self
      unfold P_X12_given_22 B_X12_given_22
      rw [e12, h.2.1]
      refine ⟨fun _ => ⟨fun _ => ?_, fun _ => ?_⟩, fun hg => ?_⟩
      · exact mn_made (t := 0) h2 hlt (by decide) rfl (fun e => absurd e (by decide)) (fun e => absurd e (by decide)) (fun _ => ⟨m, hm, rfl⟩) (fun e => absurd e (by decide)) (fun v' fi' fl' g g2 => hQ hlt _ _ _ g (g2.trans e19))
      · exact mn_made (t := 0) h2 hlt (by decide) rfl (fun e => absurd e (by decide)) (fun e => absurd e (by decide)) (fun _ => ⟨m, hm, rfl⟩) (fun e => absurd e (by decide)) (fun v' fi' fl' g g2 => hQ hlt _ _ _ g (g2.trans e19))
      · have hjm : j < m := by
          rcases Nat.lt_or_ge j m with g | g
          · exact g
          · exact absurd (nI_le g (by omega)) hg
        have hv1 : vp_in (nI j) 100 := vp_in_nI (by omega) (by decide)
        rw [pl100]
        have hv2 : vp_in (nI (100 * n + j)) 2400 := vp_in_nI (by omega) (by decide)
        refine ⟨hv1, hv2, hv1, hv2, ?_⟩
        rw [nIs]
        exact ih (j + 1) _ _ (by omega) (by omega) (h.arr (by decide))
  exact ⟨_, key _ 0 _ _ (Nat.lt_succ_self _) (Nat.zero_le _) h'⟩
end MF
