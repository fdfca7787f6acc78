section MB3
variable {v v1 : Nat → Int32} {w : Nat → Int64} {fi fi' : Nat → Nat → Int32} {fl : Nat → Nat → Int64} {n m u a b k l t j : Nat} {r s p0 p1 : Int32} {y z : Int64}
theorem mn_isOp {P : Int32 → Prop} (h0 : ¬ inO p0 8 → P 0) (h1 : inO p0 8 → P 1) : P_X12_isOp p0 P := ⟨fun e => h0 (fun c => c.1 e), fun e => ⟨fun e2 => h0 (fun c => absurd e2 (Int32.not_lt.mpr c.2)), fun e2 => h1 ⟨e, Int32.not_lt.mp e2⟩⟩⟩
theorem mn_isCond {P : Int32 → Prop} (h0 : ¬ inO p0 3 → P 0) (h1 : inO p0 3 → P 1) : P_X12_isCond p0 P := ⟨fun e => h0 (fun c => c.1 e), fun e => ⟨fun e2 => h0 (fun c => absurd e2 (Int32.not_lt.mpr c.2)), fun e2 => h1 ⟨e, Int32.not_lt.mp e2⟩⟩⟩
theorem r_find {Q : Int64 → MT} (h : RI v fi n m u) (hK : Kx n m u Q) : P_X12_find v w fi fl p0 p1 y Q := by
  have h' : RI (va_up v 19 0) fi n m u := h.up (by decide) (by decide) (by decide)
  refine mn_isList h' (fun a ha ea => ⟨fun _ => mn_isCond (fun _ => ⟨fun e => absurd rfl e, fun _ => hK _ _ _ _ _ (h'.up (by decide) (by decide) (by decide))⟩) (fun _ => ⟨fun _ => mn_begin h' (fun v2 h2 => ?_), fun e => absurd e (by decide)⟩), fun e => absurd e (by decide)⟩) (fun _ => ⟨fun e => absurd rfl e, fun _ => hK _ _ _ _ _ (h'.up (by decide) (by decide) (by decide))⟩)
  subst ea
  have key : ∀ (f j : Nat) (v : Nat → Int32) (w : Nat → Int64) (fi : Nat → Nat → Int32) (fl : Nat → Nat → Int64), 401 - j < f → j ≤ 400 → RJ v fi n m u → (∀ i, i < j → TH fi a i) → P_X12_find_41 Q f v w fi fl (nI a) p1 y (nI j) := by
    intro f
    induction f with
    | zero => intro j v w fi fl hf; exact absurd hf (Nat.not_lt_zero _)
    | succ f ih =>
      intro j v w fi fl hf hj h ht
      unfold P_X12_find_41 B_X12_find_41
      refine mn_reach h ha hj ht (fun r v' w' fi' fl' h' M' hr => ⟨fun _ => ⟨fun e1 => ?_, fun _ => mn_told h'.1 hK⟩, fun _ => hK _ _ _ _ _ h'.1⟩)
      obtain ⟨g1, g2⟩ := hr e1
      refine mn_work h' ha g1 g2 (fun r v9 w9 fi9 fl9 h9 M9 => ⟨fun _ => mn_meets ⟨fun _ => ?_, fun _ => hK _ _ _ _ _ h9.1⟩ ⟨fun _ => ?_, fun _ => hK _ _ _ _ _ h9.1⟩, fun _ => mn_told h9.1 hK⟩)
      · show P_X12_find_41 Q f v9 w9 fi9 fl9 (nI a) p1 y (nI j + 1)
        rw [nIs]
        exact ih (j + 1) _ _ _ _ (by omega) (by omega) h9 (fun i hi => M9.th (th_more M' ht g2 i hi))
      · show P_X12_find_41 Q f v9 w9 fi9 fl9 (nI a) p1 y (nI j + 1)
        rw [nIs]
        exact ih (j + 1) _ _ _ _ (by omega) (by omega) h9 (fun i hi => M9.th (th_more M' ht g2 i hi))
  exact ⟨_, key _ 0 _ _ _ _ (Nat.lt_succ_self _) (by decide) h2 (fun i hi => absurd hi (Nat.not_lt_zero _))⟩
theorem r_fold {Q : Int64 → MT} (h : RI v fi n m u) (hK : Kx n m u Q) : P_X12_fold v w fi fl p0 p1 y Q := by
  have h' : RI (va_up v 19 0) fi n m u := h.up (by decide) (by decide) (by decide)
  refine mn_isList h' (fun a ha ea => ⟨fun _ => mn_isOp (fun _ => ⟨fun e => absurd rfl e, fun _ => hK _ _ _ _ _ (h'.up (by decide) (by decide) (by decide))⟩) (fun _ => ⟨fun _ => mn_begin h' (fun v2 h2 => ?_), fun e => absurd e (by decide)⟩), fun e => absurd e (by decide)⟩) (fun _ => ⟨fun e => absurd rfl e, fun _ => hK _ _ _ _ _ (h'.up (by decide) (by decide) (by decide))⟩)
  subst ea
  have key : ∀ (f j : Nat) (y : Int64) (v : Nat → Int32) (w : Nat → Int64) (fi : Nat → Nat → Int32) (fl : Nat → Nat → Int64), 401 - j < f → j ≤ 400 → RJ v fi n m u → (∀ i, i < j → TH fi a i) → P_X12_fold_44 Q f v w fi fl (nI a) p1 y (nI j) := by
    intro f
    induction f with
    | zero => intro j y v w fi fl hf; exact absurd hf (Nat.not_lt_zero _)
    | succ f ih =>
      intro j y v w fi fl hf hj h ht
      unfold P_X12_fold_44 B_X12_fold_44
      refine mn_reach h ha hj ht (fun r v' w' fi' fl' h' M' hr => ⟨fun _ => ⟨fun e1 => ?_, fun _ => mn_told h'.1 hK⟩, fun _ => hK _ _ _ _ _ h'.1⟩)
      obtain ⟨g1, g2⟩ := hr e1
      refine ⟨fun _ => mn_work h' ha g1 g2 (fun r v9 w9 fi9 fl9 h9 M9 => ⟨fun _ => mn_op (fun r w' => ⟨fun _ => ?_, fun _ => mn_told h9.1 hK⟩), fun _ => mn_told h9.1 hK⟩), fun _ => ?_⟩
      · show P_X12_fold_44 Q f v9 w' fi9 fl9 (nI a) p1 (w' 22) (nI j + 1)
        rw [nIs]
        exact ih (j + 1) _ _ _ _ _ (by omega) (by omega) h9 (fun i hi => M9.th (th_more M' ht g2 i hi))
      · show P_X12_fold_44 Q f v' w' fi' fl' (nI a) p1 y (nI j + 1)
        rw [nIs]
        exact ih (j + 1) _ _ _ _ _ (by omega) (by omega) h' (th_more M' ht g2)
  exact ⟨_, key _ 0 _ _ _ _ _ (Nat.lt_succ_self _) (by decide) h2 (fun i hi => absurd hi (Nat.not_lt_zero _))⟩
theorem r_reached {Q : Int32 → MT} (h : RI v fi n m u) (hK : Kx n m u Q) : P_X12_reached v w fi fl p0 Q := by
  have h' : RI (va_up v 19 0) fi n m u := h.up (by decide) (by decide) (by decide)
  have hn := h.1.1
  refine mn_isList h' (fun a ha ea => ⟨fun _ => ?_, fun e => absurd e (by decide)⟩) (fun _ => ⟨fun e => absurd rfl e, fun _ => hK _ _ _ _ _ (h'.up (by decide) (by decide) (by decide))⟩)
  subst ea
  have key : ∀ (f j : Nat), 401 - j < f → j ≤ 400 → P_X12_reached_21 Q f (va_up v 19 0) w fi fl (nI a) (nI j) := by
    intro f
    induction f with
    | zero => intro j hf; exact absurd hf (Nat.not_lt_zero _)
    | succ f ih =>
      intro j hf hj
      refine ⟨fun _ => hK _ _ _ _ _ h', fun hlt => ?_⟩
      have hj4 : j < 400 := by
        rcases Nat.lt_or_ge j 400 with e | e
        · exact e
        · exact absurd (nI_le (a := 400) (b := j) e (by omega)) hlt
      unfold P_X12_place
      rw [pl]
      refine ⟨vp_in_nI (by omega) (by decide), fun _ => hK _ _ _ _ _ h', fun _ => ?_⟩
      show P_X12_reached_21 Q f (va_up v 19 0) w fi fl (nI a) (nI j + 1)
      rw [nIs]
      exact ih (j + 1) (by omega) (by omega)
  exact ⟨_, key _ 0 (Nat.lt_succ_self _) (by decide)⟩
theorem r_worked {Q : Int32 → MT} (h : RI v fi n m u) (hK : Kx n m u Q) : P_X12_worked v w fi fl p0 p1 Q := by
  have h' : RI (va_up v 19 0) fi n m u := h.up (by decide) (by decide) (by decide)
  have hn := h.1.1
  refine mn_isList h' (fun a ha ea => ⟨fun _ => ⟨fun _ => hK _ _ _ _ _ h', fun hp => ⟨fun _ => hK _ _ _ _ _ h', fun hlt => ?_⟩⟩, fun e => absurd e (by decide)⟩) (fun _ => ⟨fun e => absurd rfl e, fun _ => ⟨fun _ => hK _ _ _ _ _ (h'.up (by decide) (by decide) (by decide)), fun _ => hK _ _ _ _ _ (h'.up (by decide) (by decide) (by decide))⟩⟩)
  subst ea
  obtain ⟨k, hk, rfl, -⟩ := pk_mu (L := 400) hp hlt (by decide)
  unfold P_X12_place
  rw [pl]
  dsimp only
  rw [nI_clamp (n := 400 * a + k) (by omega)]
  refine ⟨vp_in_nI (by omega) (by decide), fun ht => ?_, fun _ => hK _ _ _ _ _ h'⟩
  exact mn_ownPlace h.1 (by omega) hk ht (fun l j h1 h2 h3 h4 h5 => ⟨vp_in_nI (by omega) (by decide), fun _ => hK _ _ _ _ _ h', fun _ => hK _ _ _ _ _ h'⟩)
theorem r_outcome {Q : Int32 → MT} (h : RI v fi n m u) (hK : Kx n m u Q) : P_X12_outcome v w fi fl Q := hK _ _ _ _ _ (h.up (by decide) (by decide) (by decide))
theorem r_error {Q : Int32 → MT} (h : RI v fi n m u) (hK : Kx n m u Q) : P_X12_error v w fi fl Q := hK _ _ _ _ _ (h.up (by decide) (by decide) (by decide))
theorem r_spent {Q : Int32 → MT} (h : RI v fi n m u) (hK : Kx n m u Q) : P_X12_spent v w fi fl Q := hK _ _ _ _ _ (h.up (by decide) (by decide) (by decide))
theorem r_lists {Q : Int32 → MT} (h : RI v fi n m u) (hK : ∀ v', RI v' fi n m u → Q (nI n) v' w fi fl) : P_X12_lists v w fi fl Q := by
  unfold P_X12_lists
  rw [h.2.1]
  exact hK _ (h.up (by decide) (by decide) (by decide))
end MB3
