section MB2
variable {v v1 : Nat → Int32} {w : Nat → Int64} {fi fi' : Nat → Nat → Int32} {fl : Nat → Nat → Int64} {n m u a b k l t j : Nat} {r s p0 p1 : Int32} {y : Int64}
theorem th_more (M : Mo fi fi') (ht : ∀ i, i < j → TH fi a i) (g : TH fi' a j) : ∀ i, i < j + 1 → TH fi' a i := fun i hi => by
  rcases Nat.lt_or_ge i j with e | e
  · exact M.th (ht i e)
  · rw [show i = j by omega]; exact g
theorem r_last {Q : Int64 → MT} (h : RI v fi n m u) (hK : Kx n m u Q) : P_X12_last v w fi fl p0 Q := by
  have h' : RI (va_up v 19 0) fi n m u := h.up (by decide) (by decide) (by decide)
  refine mn_isList h' (fun a ha ea => ⟨fun _ => mn_begin h' (fun v2 h2 => ?_), fun e => absurd e (by decide)⟩) (fun _ => ⟨fun e => absurd rfl e, fun _ => hK _ _ _ _ _ (h'.up (by decide) (by decide) (by decide))⟩)
  subst ea
  have key : ∀ (f j : Nat) (v : Nat → Int32) (w : Nat → Int64) (fi : Nat → Nat → Int32) (fl : Nat → Nat → Int64), 401 - j < f → j ≤ 400 → RJ v fi n m u → (∀ i, i < j → TH fi a i) → P_X12_last_26 Q f v w fi fl (nI a) (nI j) := by
    intro f
    induction f with
    | zero => intro j v w fi fl hf; exact absurd hf (Nat.not_lt_zero _)
    | succ f ih =>
      intro j v w fi fl hf hj h ht
      unfold P_X12_last_26 B_X12_last_26
      refine mn_reach h ha hj ht (fun r v' w' fi' fl' h' M' hr => ⟨fun _ => ⟨fun e1 => ?_, fun _ => mn_told h'.1 hK⟩, fun _ => ⟨fun hne => ?_, fun _ => mn_failed h'.1 hK⟩⟩)
      · obtain ⟨g1, g2⟩ := hr e1
        show P_X12_last_26 Q f v' w' fi' fl' (nI a) (nI j + 1)
        rw [nIs]
        exact ih (j + 1) _ _ _ _ (by omega) (by omega) h' (th_more M' ht g2)
      · have hp : 0 < j := Nat.pos_of_ne_zero (fun e => hne (by rw [e]; rfl))
        rw [show (1 : Int32) = nI 1 from rfl, pk_sub hp]
        exact mn_work h' ha (by omega) (M'.th (ht _ (by omega))) (fun r v9 w9 fi9 fl9 h9 M9 => mn_told h9.1 hK)
  exact ⟨_, key _ 0 _ _ _ _ (Nat.lt_succ_self _) (by decide) h2 (fun i hi => absurd hi (Nat.not_lt_zero _))⟩
theorem r_at {Q : Int64 → MT} (h : RI v fi n m u) (hK : Kx n m u Q) : P_X12_at v w fi fl p0 p1 Q := by
  have h' : RI (va_up v 19 0) fi n m u := h.up (by decide) (by decide) (by decide)
  have hf : RI (va_up (va_up v 19 0) 19 2) fi n m u := h'.up (by decide) (by decide) (by decide)
  refine mn_isList h' (fun a ha ea => ⟨fun _ => ⟨fun hpos => mn_begin h' (fun v2 h2 => ?_), fun _ => hK _ _ _ _ _ hf⟩, fun e => absurd e (by decide)⟩) (fun _ => ⟨fun e => absurd rfl e, fun _ => hK _ _ _ _ _ (h'.up (by decide) (by decide) (by decide))⟩)
  obtain ⟨kk, hkk, rfl⟩ := nI_of (x := p1) (Int32.not_lt.mpr hpos)
  subst ea
  have key : ∀ (f j : Nat) (v : Nat → Int32) (w : Nat → Int64) (fi : Nat → Nat → Int32) (fl : Nat → Nat → Int64), 401 - j < f → j ≤ 400 → RJ v fi n m u → (∀ i, i < j → TH fi a i) → P_X12_at_37 Q f v w fi fl (nI a) (nI kk) (nI j) := by
    intro f
    induction f with
    | zero => intro j v w fi fl hf; exact absurd hf (Nat.not_lt_zero _)
    | succ f ih =>
      intro j v w fi fl hf hj h ht
      refine ⟨fun hlt => ?_, fun _ => ?_⟩
      · have hlt' : kk < j := (nI_ltI hkk (by omega)).mp hlt
        exact mn_work h ha (by omega) (ht _ hlt') (fun r v9 w9 fi9 fl9 h9 M9 => mn_told h9.1 hK)
      · refine mn_reach h ha hj ht (fun r v' w' fi' fl' h' M' hr => ⟨fun _ => ⟨fun e1 => ?_, fun _ => mn_told h'.1 hK⟩, fun _ => mn_failed h'.1 hK⟩)
        obtain ⟨g1, g2⟩ := hr e1
        show P_X12_at_37 Q f v' w' fi' fl' (nI a) (nI kk) (nI j + 1)
        rw [nIs]
        exact ih (j + 1) _ _ _ _ (by omega) (by omega) h' (th_more M' ht g2)
  exact ⟨_, key _ 0 _ _ _ _ (Nat.lt_succ_self _) (by decide) h2 (fun i hi => absurd hi (Nat.not_lt_zero _))⟩
end MB2
