section H67
/-- what holds of the reference between calls -/
def RI (v : Nat → Int32) (fi : Nat → Nat → Int32) (n m u : Nat) : Prop := IM fi n ∧ v 0 = nI n ∧ v 12 = nI m ∧ m ≤ 100 ∧ v 15 = nI u ∧ 1 ≤ u ∧ u ≤ 5000
def RJ (v : Nat → Int32) (fi : Nat → Nat → Int32) (n m u : Nat) : Prop := RI v fi n m u ∧ ∃ s, v 16 = nI s ∧ s ≤ u
abbrev Kx {α : Type} (n m u : Nat) (Q : α → MT) : Prop := ∀ r v' w' fi' fl', RI v' fi' n m u → Q r v' w' fi' fl'
section MA
variable {v v1 : Nat → Int32} {w : Nat → Int64} {fi fi' : Nat → Nat → Int32} {fl : Nat → Nat → Int64} {n m u a b k l t j : Nat} {r s p0 p1 : Int32} {y : Int64}
theorem v20 : vp_in (0 : Int32) 20000 := vp_in_nI (show 0 < 20000 by decide) (by decide)
theorem v21 : vp_in ((1 : Int32) - 1) 20000 := by rw [show (1 : Int32) - 1 = 0 by decide]; exact v20
theorem RI.up {i : Nat} {x : Int32} (h : RI v fi n m u) (h0 : i ≠ 0) (h12 : i ≠ 12) (h15 : i ≠ 15) : RI (va_up v i x) fi n m u := ⟨h.1, (va_up_ne _ _ h0.symm).trans h.2.1, (va_up_ne _ _ h12.symm).trans h.2.2.1, h.2.2.2.1, (va_up_ne _ _ h15.symm).trans h.2.2.2.2.1, h.2.2.2.2.2⟩
theorem mn_meetC {Q : Int32 → MT} (h : RJ v fi n m u) (hl : l < n) (hk : k < 400) (ht : ∀ i, i < k → TH fi l i) (hK : ∀ r v' w' fi' fl', RJ v' fi' n m u → Mo fi fi' → Q r v' w' fi' fl') : P_X12_meet v w fi fl (nI (2 * (400 * l + k))) Q := by
  obtain ⟨⟨I, g0, g12, gm, g15, g1, g5⟩, s, hs, hsu⟩ := h
  have hn := I.1
  refine ⟨v20, ?_⟩
  have e31 : va_up fi 31 (upd (fi 31) (0 : Int32).toNatClampNeg (nI (2 * (400 * l + k)))) 31 0 = nI (2 * (400 * l + k)) := by rw [va_self]; rfl
  have ne : ∀ i, i ≠ 31 → va_up fi 31 (upd (fi 31) (0 : Int32).toNatClampNeg (nI (2 * (400 * l + k)))) i = fi i := fun i hi => va_up_ne _ _ hi
  generalize va_up fi 31 (upd (fi 31) (0 : Int32).toNatClampNeg (nI (2 * (400 * l + k)))) = f2 at e31 ne
  have I2 : IM f2 n := I.cg (ne _ (by decide)) (ne _ (by decide)) (ne _ (by decide)) (ne _ (by decide)) (ne _ (by decide)) (ne _ (by decide)) (ne _ (by decide))
  have M2 : Mo fi f2 := ⟨ne _ (by decide), ne _ (by decide), ne _ (by decide), ne _ (by decide), fun q _ => congrFun (ne 7 (by decide)) q⟩
  have K2 : KMe n u v f2 Q := fun r9 v9 w9 fi9 fl9 s9 I9 M9 q0 q12 q15 q16 qs => hK _ _ _ _ _ ⟨⟨I9, q0.trans g0, q12.trans g12, gm, q15, g1, g5⟩, s9, q16, qs⟩ (M2.tr M9)
  by_cases h0 : fi 7 (400 * l + k) = 0
  · refine ⟨_, mn_meet_loop _ 1 s _ _ _ _ (Nat.lt_succ_self _) I2 ⟨fun i hi => ?_, fun i j hij hj => by omega⟩ g15 hs hsu g5 K2⟩
    rw [show i = 0 by omega, e31]
    exact Or.inl ⟨l, k, hl, hk, by omega, rfl, by rw [ne 7 (by decide)]; exact h0, fun i hi => M2.th (ht i hi)⟩
  · refine ⟨2, fun h => absurd h (by decide), fun _ => ⟨v21, ?_⟩⟩
    have ez : nI (2 * (400 * l + k)) / 2 = nI (400 * l + k) := by
      rw [show (2 : Int32) = nI 2 from rfl, pk_div (by omega) (by decide) (by decide)]
      congr 1; omega
    have er : nI (2 * (400 * l + k)) - nI (2 * (400 * l + k)) / 2 * 2 = nI 0 := by
      rw [show (2 : Int32) = nI 2 from rfl, pk_rem (by omega) (by decide) (by decide)]
      congr 1; omega
    rintro z rfl
    refine ⟨v21, ?_⟩
    rw [show ((1 : Int32) - 1).toNatClampNeg = 0 by decide, e31, er, ez, nI_clamp (n := 400 * l + k) (by omega)]
    refine ⟨fun _ => ⟨vp_in_nI (by omega) (by decide), fun e => absurd (by rw [ne 7 (by decide)] at e; exact e) h0, fun _ => ?_⟩, fun e => absurd e (by decide)⟩
    exact ⟨fun _ => K2 _ _ _ _ _ s I2 Mo.rf rfl rfl g15 hs hsu, fun e => absurd (by decide) e⟩
theorem mn_meetI {Q : Int32 → MT} (h : RJ v fi n m u) (hl : l < n) (hk : k < 400) (ht : TH fi l k) (h10 : fi 10 (400 * l + k) = 0) (hK : ∀ r v' w' fi' fl', RJ v' fi' n m u → Mo fi fi' → Q r v' w' fi' fl') : P_X12_meet v w fi fl (nI (2 * (400 * l + k) + 1)) Q := by
  obtain ⟨⟨I, g0, g12, gm, g15, g1, g5⟩, s, hs, hsu⟩ := h
  have hn := I.1
  refine ⟨v20, ?_⟩
  have e31 : va_up fi 31 (upd (fi 31) (0 : Int32).toNatClampNeg (nI (2 * (400 * l + k) + 1))) 31 0 = nI (2 * (400 * l + k) + 1) := by rw [va_self]; rfl
  have ne : ∀ i, i ≠ 31 → va_up fi 31 (upd (fi 31) (0 : Int32).toNatClampNeg (nI (2 * (400 * l + k) + 1))) i = fi i := fun i hi => va_up_ne _ _ hi
  generalize va_up fi 31 (upd (fi 31) (0 : Int32).toNatClampNeg (nI (2 * (400 * l + k) + 1))) = f2 at e31 ne
  have I2 : IM f2 n := I.cg (ne _ (by decide)) (ne _ (by decide)) (ne _ (by decide)) (ne _ (by decide)) (ne _ (by decide)) (ne _ (by decide)) (ne _ (by decide))
  have M2 : Mo fi f2 := ⟨ne _ (by decide), ne _ (by decide), ne _ (by decide), ne _ (by decide), fun q _ => congrFun (ne 7 (by decide)) q⟩
  have K2 : KMe n u v f2 Q := fun r9 v9 w9 fi9 fl9 s9 I9 M9 q0 q12 q15 q16 qs => hK _ _ _ _ _ ⟨⟨I9, q0.trans g0, q12.trans g12, gm, q15, g1, g5⟩, s9, q16, qs⟩ (M2.tr M9)
  by_cases h0 : fi 8 (400 * l + k) = 0
  · refine ⟨_, mn_meet_loop _ 1 s _ _ _ _ (Nat.lt_succ_self _) I2 ⟨fun i hi => ?_, fun i j hij hj => by omega⟩ g15 hs hsu g5 K2⟩
    rw [show i = 0 by omega, e31]
    exact Or.inr ⟨l, k, hl, hk, by omega, rfl, by rw [ne 8 (by decide)]; exact h0, M2.th ht, by rw [ne 10 (by decide)]; exact h10⟩
  · refine ⟨2, fun h => absurd h (by decide), fun _ => ⟨v21, ?_⟩⟩
    have ez : nI (2 * (400 * l + k) + 1) / 2 = nI (400 * l + k) := by
      rw [show (2 : Int32) = nI 2 from rfl, pk_div (by omega) (by decide) (by decide)]
      congr 1; omega
    have er : nI (2 * (400 * l + k) + 1) - nI (2 * (400 * l + k) + 1) / 2 * 2 = nI 1 := by
      rw [show (2 : Int32) = nI 2 from rfl, pk_rem (by omega) (by decide) (by decide)]
      congr 1; omega
    rintro z rfl
    refine ⟨v21, ?_⟩
    rw [show ((1 : Int32) - 1).toNatClampNeg = 0 by decide, e31, er, ez, nI_clamp (n := 400 * l + k) (by omega)]
    refine ⟨fun e => absurd rfl e, fun _ => ⟨vp_in_nI (by omega) (by decide), fun e => absurd (by rw [ne 8 (by decide)] at e; exact e) h0, fun _ => ?_⟩⟩
    exact ⟨fun _ => K2 _ _ _ _ _ s I2 Mo.rf rfl rfl g15 hs hsu, fun e => absurd (by decide) e⟩
theorem mn_reach {Q : Int32 → MT} (h : RJ v fi n m u) (ha : a < n) (hj : j ≤ 400) (ht : ∀ i, i < j → TH fi a i) (hK : ∀ r v' w' fi' fl', RJ v' fi' n m u → Mo fi fi' → (r = 1 → j < 400 ∧ TH fi' a j) → Q r v' w' fi' fl') : P_X12_reach v w fi fl (nI a) (nI j) Q := by
  have hn := h.1.1.1
  refine ⟨fun hlt => ?_, fun _ => hK _ _ _ _ _ h Mo.rf (fun e => absurd e (by decide))⟩
  have hj4 : j < 400 := (nI_ltI (a := j) (b := 400) (by omega) (by decide)).mp hlt
  unfold P_X12_place
  rw [pl]
  dsimp only
  rw [dbl]
  refine mn_meetC h ha hj4 ht (fun r v' w' fi' fl' h' M' => ⟨fun _ => hK _ _ _ _ _ h' M' (fun e => absurd e (by decide)), fun _ => ⟨vp_in_nI (by omega) (by decide), ?_⟩⟩)
  rw [nI_clamp (n := 400 * a + j) (by omega)]
  exact hK _ _ _ _ _ h' M' (fun e => ⟨hj4, e⟩)
theorem mn_work {Q : Int32 → MT} (h : RJ v fi n m u) (ha : a < n) (hk : k < 400) (ht : TH fi a k) (hK : ∀ r v' w' fi' fl', RJ v' fi' n m u → Mo fi fi' → Q r v' w' fi' fl') : P_X12_work v w fi fl (nI a) (nI k) Q := by
  have hn := h.1.1.1
  refine mn_ownPlace h.1.1 (by omega) hk ht (fun l j h1 h2 h3 h4 h5 => ?_)
  rw [dbl, nIs]
  exact mn_meetI h (by omega) h2 h4 h5 (fun r v' w' fi' fl' h' M' => ⟨fun _ => ⟨vp_in_nI (by omega) (by decide), vp_in_nI (by omega) (by decide), hK _ _ _ _ _ h' M'⟩, fun _ => hK _ _ _ _ _ h' M'⟩)
theorem mn_failed {Q : Int64 → MT} (h : RI v fi n m u) (hK : Kx n m u Q) : P_X12_failed v w fi fl p0 Q := ⟨fun _ => hK _ _ _ _ _ ((h.up (by decide) (by decide) (by decide)).up (by decide) (by decide) (by decide)), fun _ => hK _ _ _ _ _ ((h.up (by decide) (by decide) (by decide)).up (by decide) (by decide) (by decide))⟩
theorem mn_told {Q : Int64 → MT} (h : RI v fi n m u) (hK : Kx n m u Q) : P_X12_told v w fi fl p0 Q := ⟨fun _ => ⟨fun _ => mn_failed h hK, fun _ => hK _ _ _ _ _ h⟩, fun _ => hK _ _ _ _ _ (h.up (by decide) (by decide) (by decide))⟩
theorem mn_isList {Q : Int32 → MT} (h : RI v fi n m u) (h1 : ∀ a, a < n → p0 = nI a → Q 1 v w fi fl) (h0 : ¬ inL p0 n → Q 0 v w fi fl) : P_X12_isList v w fi fl p0 Q := by
  have hn := h.1.1
  refine ⟨fun e => h0 (fun c => c.1 e), fun e => ⟨fun e2 => h0 (fun c => c.2 (by rw [← h.2.1]; exact e2)), fun e2 => ?_⟩⟩
  rw [h.2.1] at e2
  obtain ⟨a, ha, ea, -⟩ := pk_mu e e2 (show n < 2 ^ 31 by omega)
  exact h1 a ha ea
theorem mn_begin {Q : MT} (h : RI v fi n m u) (hQ : ∀ v', RJ v' fi n m u → Q v' w fi fl) : P_X12_begin v w fi fl Q := by
  refine hQ _ ⟨((h.up (by decide) (by decide) (by decide)).up (by decide) (by decide) (by decide)).up (by decide) (by decide) (by decide), 0, ?_, Nat.zero_le _⟩
  rw [va_up_ne _ _ (by decide), va_up_ne _ _ (by decide), va_self]; rfl
theorem r_size {Q : Int64 → MT} (h : RI v fi n m u) (hK : Kx n m u Q) : P_X12_size v w fi fl p0 Q := by
  have h' : RI (va_up v 19 0) fi n m u := h.up (by decide) (by decide) (by decide)
  refine mn_isList h' (fun a ha ea => ⟨fun _ => mn_begin h' (fun v2 h2 => ?_), fun e => absurd e (by decide)⟩) (fun _ => ⟨fun e => absurd rfl e, fun _ => hK _ _ _ _ _ (h'.up (by decide) (by decide) (by decide))⟩)
  subst ea
  have key : ∀ (f j : Nat) (v : Nat → Int32) (w : Nat → Int64) (fi : Nat → Nat → Int32) (fl : Nat → Nat → Int64), 401 - j < f → j ≤ 400 → RJ v fi n m u → (∀ i, i < j → TH fi a i) → P_X12_size_26 Q f v w fi fl (nI a) (nI j) := by
    intro f
    induction f with
    | zero => intro j v w fi fl hf; exact absurd hf (Nat.not_lt_zero _)
    | succ f ih =>
      intro j v w fi fl hf hj h ht
      unfold P_X12_size_26 B_X12_size_26
      refine mn_reach h ha hj ht (fun r v' w' fi' fl' h' M' hr => ⟨fun _ => ⟨fun e1 => ?_, fun _ => mn_told h'.1 hK⟩, fun _ => hK _ _ _ _ _ h'.1⟩)
      obtain ⟨g1, g2⟩ := hr e1
      show P_X12_size_26 Q f v' w' fi' fl' (nI a) (nI j + 1)
      rw [nIs]
      refine ih (j + 1) _ _ _ _ (by omega) (by omega) h' (fun i hi => ?_)
      rcases Nat.lt_or_ge i j with e | e
      · exact M'.th (ht i e)
      · rw [show i = j by omega]; exact g2
  exact ⟨_, key _ 0 _ _ _ _ (Nat.lt_succ_self _) (by decide) h2 (fun i hi => absurd hi (Nat.not_lt_zero _))⟩
end MA
end H67
section H68
section MB2
variable {v v1 : Nat → Int32} {w : Nat → Int64} {fi fi' : Nat → Nat → Int32} {fl : Nat → Nat → Int64} {n m u a b k l t j : Nat} {r s p0 p1 : Int32} {y : Int64}
theorem th_more (M : Mo fi fi') (ht : ∀ i, i < j → TH fi a i) (g : TH fi' a j) : ∀ i, i < j + 1 → TH fi' a i := fun i hi => by
  rcases Nat.lt_or_ge i j with e | e
  · exact M.th (ht i e)
  · rw [show i = j by omega]; exact g
theorem r_last {Q : Int64 → MT} (h : RI v fi n m u) (hK : Kx n m u Q) : P_X12_last v w fi fl p0 Q := by
  have h' : RI (va_up v 19 0) fi n m u := h.up (by decide) (by decide) (by decide)
  refine mn_isList h' (fun a ha ea => ⟨fun _ => mn_begin h' (fun v2 h2 => ?_), fun e => absurd e (by decide)⟩) (fun _ => ⟨fun e => absurd rfl e, fun _ => hK _ _ _ _ _ (h'.up (by decide) (by decide) (by decide))⟩)
  subst ea
  have key : ∀ (f j : Nat) (v : Nat → Int32) (w : Nat → Int64) (fi : Nat → Nat → Int32) (fl : Nat → Nat → Int64), 401 - j < f → j ≤ 400 → RJ v fi n m u → (∀ i, i < j → TH fi a i) → P_X12_last_26 Q f v w fi fl (nI a) (nI j) := by
    intro f
    induction f with
    | zero => intro j v w fi fl hf; exact absurd hf (Nat.not_lt_zero _)
    | succ f ih =>
      intro j v w fi fl hf hj h ht
      unfold P_X12_last_26 B_X12_last_26
      refine mn_reach h ha hj ht (fun r v' w' fi' fl' h' M' hr => ⟨fun _ => ⟨fun e1 => ?_, fun _ => mn_told h'.1 hK⟩, fun _ => ⟨fun hne => ?_, fun _ => mn_failed h'.1 hK⟩⟩)
      · obtain ⟨g1, g2⟩ := hr e1
        show P_X12_last_26 Q f v' w' fi' fl' (nI a) (nI j + 1)
        rw [nIs]
        exact ih (j + 1) _ _ _ _ (by omega) (by omega) h' (th_more M' ht g2)
      · have hp : 0 < j := Nat.pos_of_ne_zero (fun e => hne (by rw [e]; rfl))
        rw [show (1 : Int32) = nI 1 from rfl, pk_sub hp]
        exact mn_work h' ha (by omega) (M'.th (ht _ (by omega))) (fun r v9 w9 fi9 fl9 h9 M9 => mn_told h9.1 hK)
  exact ⟨_, key _ 0 _ _ _ _ (Nat.lt_succ_self _) (by decide) h2 (fun i hi => absurd hi (Nat.not_lt_zero _))⟩
theorem r_at {Q : Int64 → MT} (h : RI v fi n m u) (hK : Kx n m u Q) : P_X12_at v w fi fl p0 p1 Q := by
  have h' : RI (va_up v 19 0) fi n m u := h.up (by decide) (by decide) (by decide)
  have hf : RI (va_up (va_up v 19 0) 19 2) fi n m u := h'.up (by decide) (by decide) (by decide)
  refine mn_isList h' (fun a ha ea => ⟨fun _ => ⟨fun hpos => mn_begin h' (fun v2 h2 => ?_), fun _ => hK _ _ _ _ _ hf⟩, fun e => absurd e (by decide)⟩) (fun _ => ⟨fun e => absurd rfl e, fun _ => hK _ _ _ _ _ (h'.up (by decide) (by decide) (by decide))⟩)
  obtain ⟨kk, hkk, rfl⟩ := nI_of (x := p1) (Int32.not_lt.mpr hpos)
  subst ea
  have key : ∀ (f j : Nat) (v : Nat → Int32) (w : Nat → Int64) (fi : Nat → Nat → Int32) (fl : Nat → Nat → Int64), 401 - j < f → j ≤ 400 → RJ v fi n m u → (∀ i, i < j → TH fi a i) → P_X12_at_37 Q f v w fi fl (nI a) (nI kk) (nI j) := by
    intro f
    induction f with
    | zero => intro j v w fi fl hf; exact absurd hf (Nat.not_lt_zero _)
    | succ f ih =>
      intro j v w fi fl hf hj h ht
      refine ⟨fun hlt => ?_, fun _ => ?_⟩
      · have hlt' : kk < j := (nI_ltI hkk (by omega)).mp hlt
        exact mn_work h ha (by omega) (ht _ hlt') (fun r v9 w9 fi9 fl9 h9 M9 => mn_told h9.1 hK)
      · refine mn_reach h ha hj ht (fun r v' w' fi' fl' h' M' hr => ⟨fun _ => ⟨fun e1 => ?_, fun _ => mn_told h'.1 hK⟩, fun _ => mn_failed h'.1 hK⟩)
        obtain ⟨g1, g2⟩ := hr e1
        show P_X12_at_37 Q f v' w' fi' fl' (nI a) (nI kk) (nI j + 1)
        rw [nIs]
        exact ih (j + 1) _ _ _ _ (by omega) (by omega) h' (th_more M' ht g2)
  exact ⟨_, key _ 0 _ _ _ _ (Nat.lt_succ_self _) (by decide) h2 (fun i hi => absurd hi (Nat.not_lt_zero _))⟩
end MB2
end H68
section H69
section MB3
variable {v v1 : Nat → Int32} {w : Nat → Int64} {fi fi' : Nat → Nat → Int32} {fl : Nat → Nat → Int64} {n m u a b k l t j : Nat} {r s p0 p1 : Int32} {y z : Int64}
theorem mn_isOp {P : Int32 → Prop} (h0 : ¬ inO p0 8 → P 0) (h1 : inO p0 8 → P 1) : P_X12_isOp p0 P := ⟨fun e => h0 (fun c => c.1 e), fun e => ⟨fun e2 => h0 (fun c => absurd e2 (Int32.not_lt.mpr c.2)), fun e2 => h1 ⟨e, Int32.not_lt.mp e2⟩⟩⟩
theorem mn_isCond {P : Int32 → Prop} (h0 : ¬ inO p0 3 → P 0) (h1 : inO p0 3 → P 1) : P_X12_isCond p0 P := ⟨fun e => h0 (fun c => c.1 e), fun e => ⟨fun e2 => h0 (fun c => absurd e2 (Int32.not_lt.mpr c.2)), fun e2 => h1 ⟨e, Int32.not_lt.mp e2⟩⟩⟩
theorem r_find {Q : Int64 → MT} (h : RI v fi n m u) (hK : Kx n m u Q) : P_X12_find v w fi fl p0 p1 y Q := by
  have h' : RI (va_up v 19 0) fi n m u := h.up (by decide) (by decide) (by decide)
  refine mn_isList h' (fun a ha ea => ⟨fun _ => mn_isCond (fun _ => ⟨fun e => absurd rfl e, fun _ => hK _ _ _ _ _ (h'.up (by decide) (by decide) (by decide))⟩) (fun _ => ⟨fun _ => mn_begin h' (fun v2 h2 => ?_), fun e => absurd e (by decide)⟩), fun e => absurd e (by decide)⟩) (fun _ => ⟨fun e => absurd rfl e, fun _ => hK _ _ _ _ _ (h'.up (by decide) (by decide) (by decide))⟩)
  subst ea
  have key : ∀ (f j : Nat) (v : Nat → Int32) (w : Nat → Int64) (fi : Nat → Nat → Int32) (fl : Nat → Nat → Int64), 401 - j < f → j ≤ 400 → RJ v fi n m u → (∀ i, i < j → TH fi a i) → P_X12_find_41 Q f v w fi fl (nI a) p1 y (nI j) := by
    intro f
    induction f with
    | zero => intro j v w fi fl hf; exact absurd hf (Nat.not_lt_zero _)
    | succ f ih =>
      intro j v w fi fl hf hj h ht
      unfold P_X12_find_41 B_X12_find_41
      refine mn_reach h ha hj ht (fun r v' w' fi' fl' h' M' hr => ⟨fun _ => ⟨fun e1 => ?_, fun _ => mn_told h'.1 hK⟩, fun _ => hK _ _ _ _ _ h'.1⟩)
      obtain ⟨g1, g2⟩ := hr e1
      refine mn_work h' ha g1 g2 (fun r v9 w9 fi9 fl9 h9 M9 => ⟨fun _ => mn_meets ⟨fun _ => ?_, fun _ => hK _ _ _ _ _ h9.1⟩ ⟨fun _ => ?_, fun _ => hK _ _ _ _ _ h9.1⟩, fun _ => mn_told h9.1 hK⟩)
      · show P_X12_find_41 Q f v9 w9 fi9 fl9 (nI a) p1 y (nI j + 1)
        rw [nIs]
        exact ih (j + 1) _ _ _ _ (by omega) (by omega) h9 (fun i hi => M9.th (th_more M' ht g2 i hi))
      · show P_X12_find_41 Q f v9 w9 fi9 fl9 (nI a) p1 y (nI j + 1)
        rw [nIs]
        exact ih (j + 1) _ _ _ _ (by omega) (by omega) h9 (fun i hi => M9.th (th_more M' ht g2 i hi))
  exact ⟨_, key _ 0 _ _ _ _ (Nat.lt_succ_self _) (by decide) h2 (fun i hi => absurd hi (Nat.not_lt_zero _))⟩
theorem r_fold {Q : Int64 → MT} (h : RI v fi n m u) (hK : Kx n m u Q) : P_X12_fold v w fi fl p0 p1 y Q := by
  have h' : RI (va_up v 19 0) fi n m u := h.up (by decide) (by decide) (by decide)
  refine mn_isList h' (fun a ha ea => ⟨fun _ => mn_isOp (fun _ => ⟨fun e => absurd rfl e, fun _ => hK _ _ _ _ _ (h'.up (by decide) (by decide) (by decide))⟩) (fun _ => ⟨fun _ => mn_begin h' (fun v2 h2 => ?_), fun e => absurd e (by decide)⟩), fun e => absurd e (by decide)⟩) (fun _ => ⟨fun e => absurd rfl e, fun _ => hK _ _ _ _ _ (h'.up (by decide) (by decide) (by decide))⟩)
  subst ea
  have key : ∀ (f j : Nat) (y : Int64) (v : Nat → Int32) (w : Nat → Int64) (fi : Nat → Nat → Int32) (fl : Nat → Nat → Int64), 401 - j < f → j ≤ 400 → RJ v fi n m u → (∀ i, i < j → TH fi a i) → P_X12_fold_44 Q f v w fi fl (nI a) p1 y (nI j) := by
    intro f
    induction f with
    | zero => intro j y v w fi fl hf; exact absurd hf (Nat.not_lt_zero _)
    | succ f ih =>
      intro j y v w fi fl hf hj h ht
      unfold P_X12_fold_44 B_X12_fold_44
      refine mn_reach h ha hj ht (fun r v' w' fi' fl' h' M' hr => ⟨fun _ => ⟨fun e1 => ?_, fun _ => mn_told h'.1 hK⟩, fun _ => hK _ _ _ _ _ h'.1⟩)
      obtain ⟨g1, g2⟩ := hr e1
      refine ⟨fun _ => mn_work h' ha g1 g2 (fun r v9 w9 fi9 fl9 h9 M9 => ⟨fun _ => mn_op (fun r w' => ⟨fun _ => ?_, fun _ => mn_told h9.1 hK⟩), fun _ => mn_told h9.1 hK⟩), fun _ => ?_⟩
      · show P_X12_fold_44 Q f v9 w' fi9 fl9 (nI a) p1 (w' 22) (nI j + 1)
        rw [nIs]
        exact ih (j + 1) _ _ _ _ _ (by omega) (by omega) h9 (fun i hi => M9.th (th_more M' ht g2 i hi))
      · show P_X12_fold_44 Q f v' w' fi' fl' (nI a) p1 y (nI j + 1)
        rw [nIs]
        exact ih (j + 1) _ _ _ _ _ (by omega) (by omega) h' (th_more M' ht g2)
  exact ⟨_, key _ 0 _ _ _ _ _ (Nat.lt_succ_self _) (by decide) h2 (fun i hi => absurd hi (Nat.not_lt_zero _))⟩
theorem r_reached {Q : Int32 → MT} (h : RI v fi n m u) (hK : Kx n m u Q) : P_X12_reached v w fi fl p0 Q := by
  have h' : RI (va_up v 19 0) fi n m u := h.up (by decide) (by decide) (by decide)
  have hn := h.1.1
  refine mn_isList h' (fun a ha ea => ⟨fun _ => ?_, fun e => absurd e (by decide)⟩) (fun _ => ⟨fun e => absurd rfl e, fun _ => hK _ _ _ _ _ (h'.up (by decide) (by decide) (by decide))⟩)
  subst ea
  have key : ∀ (f j : Nat), 401 - j < f → j ≤ 400 → P_X12_reached_21 Q f (va_up v 19 0) w fi fl (nI a) (nI j) := by
    intro f
    induction f with
    | zero => intro j hf; exact absurd hf (Nat.not_lt_zero _)
    | succ f ih =>
      intro j hf hj
      refine ⟨fun _ => hK _ _ _ _ _ h', fun hlt => ?_⟩
      have hj4 : j < 400 := by
        rcases Nat.lt_or_ge j 400 with e | e
        · exact e
        · exact absurd (nI_le (a := 400) (b := j) e (by omega)) hlt
      unfold P_X12_place
      rw [pl]
      refine ⟨vp_in_nI (by omega) (by decide), fun _ => hK _ _ _ _ _ h', fun _ => ?_⟩
      show P_X12_reached_21 Q f (va_up v 19 0) w fi fl (nI a) (nI j + 1)
      rw [nIs]
      exact ih (j + 1) (by omega) (by omega)
  exact ⟨_, key _ 0 (Nat.lt_succ_self _) (by decide)⟩
theorem r_worked {Q : Int32 → MT} (h : RI v fi n m u) (hK : Kx n m u Q) : P_X12_worked v w fi fl p0 p1 Q := by
  have h' : RI (va_up v 19 0) fi n m u := h.up (by decide) (by decide) (by decide)
  have hn := h.1.1
  refine mn_isList h' (fun a ha ea => ⟨fun _ => ⟨fun _ => hK _ _ _ _ _ h', fun hp => ⟨fun _ => hK _ _ _ _ _ h', fun hlt => ?_⟩⟩, fun e => absurd e (by decide)⟩) (fun _ => ⟨fun e => absurd rfl e, fun _ => ⟨fun _ => hK _ _ _ _ _ (h'.up (by decide) (by decide) (by decide)), fun _ => hK _ _ _ _ _ (h'.up (by decide) (by decide) (by decide))⟩⟩)
  subst ea
  obtain ⟨k, hk, rfl, -⟩ := pk_mu (L := 400) hp hlt (by decide)
  unfold P_X12_place
  rw [pl]
  dsimp only
  rw [nI_clamp (n := 400 * a + k) (by omega)]
  refine ⟨vp_in_nI (by omega) (by decide), fun ht => ?_, fun _ => hK _ _ _ _ _ h'⟩
  exact mn_ownPlace h.1 (by omega) hk ht (fun l j h1 h2 h3 h4 h5 => ⟨vp_in_nI (by omega) (by decide), fun _ => hK _ _ _ _ _ h', fun _ => hK _ _ _ _ _ h'⟩)
theorem r_outcome {Q : Int32 → MT} (h : RI v fi n m u) (hK : Kx n m u Q) : P_X12_outcome v w fi fl Q := hK _ _ _ _ _ (h.up (by decide) (by decide) (by decide))
theorem r_error {Q : Int32 → MT} (h : RI v fi n m u) (hK : Kx n m u Q) : P_X12_error v w fi fl Q := hK _ _ _ _ _ (h.up (by decide) (by decide) (by decide))
theorem r_spent {Q : Int32 → MT} (h : RI v fi n m u) (hK : Kx n m u Q) : P_X12_spent v w fi fl Q := hK _ _ _ _ _ (h.up (by decide) (by decide) (by decide))
theorem r_lists {Q : Int32 → MT} (h : RI v fi n m u) (hK : ∀ v', RI v' fi n m u → Q (nI n) v' w fi fl) : P_X12_lists v w fi fl Q := by
  unfold P_X12_lists
  rw [h.2.1]
  exact hK _ (h.up (by decide) (by decide) (by decide))
end MB3
end H69
section H70
section MD
variable {v v1 : Nat → Int32} {w : Nat → Int64} {fi fi' : Nat → Nat → Int32} {fl : Nat → Nat → Int64} {n m u a b k l t j : Nat} {r s p0 p1 p2 p3 : Int32} {y z : Int64}
theorem IM.more (I : IM fi n) (hn : n < 24) (e1 : fi' 1 = upd (fi 1) n p0) (e2 : fi' 2 = upd (fi 2) n p1) (e3 : fi' 3 = upd (fi 3) n p2) (e4 : fi' 4 = upd (fi 4) n p3) (e7 : fi' 7 = fi 7) (e10 : fi' 10 = fi 10) (e11 : fi' 11 = fi 11)
    (ht : t ≤ 16) (h0 : p0 = nI t) (h1 : 2 < t → ∃ a, a < n ∧ p1 = nI a) (h2 : t = 4 ∨ t = 11 → ∃ b, b < n ∧ p2 = nI b) (h3 : t = 0 → ∃ a, a ≤ 100 ∧ p1 = nI a) (h4 : t = 6 ∨ t = 7 → ∃ c, c ≤ 400 ∧ p3 = nI c) : IM fi' (n + 1) := by
  obtain ⟨i0, i1, i2, i3, i4, i5⟩ := I
  have kd : ∀ {l t : Nat}, l < n → (Kd fi' l t ↔ Kd fi l t) := fun {l t} hl => by
    have hne : l ≠ n := by omega
    unfold Kd
    rw [e1, e2, e3, e4, pk_un hne, pk_un hne, pk_un hne, pk_un hne]
  have th : ∀ {l k : Nat}, TH fi' l k ↔ TH fi l k := fun {l k} => by unfold TH; rw [e7]
  refine ⟨by omega, fun l hl => ?_, fun l k hl hk => ?_, fun l k hl hk hne j hj => ?_, fun l k hl hk hnl => ?_, fun l k t' hl hk hkd hth => ?_⟩
  · by_cases e : l = n
    · subst e
      refine ⟨t, ht, by rw [e1, pk_us]; exact h0, fun h => ?_, fun h => ?_, fun h => ?_, fun h => ?_⟩
      · rw [e2, pk_us]; exact h1 h
      · rw [e3, pk_us]; exact h2 h
      · rw [e2, pk_us]; exact h3 h
      · rw [e4, pk_us]; exact h4 h
    · obtain ⟨t', h'⟩ := i1 l (by omega)
      exact ⟨t', (kd (by omega)).mpr h'⟩
  · obtain ⟨y, x, g1, g2, g3, g4, g5⟩ := i2 l k hl hk
    exact ⟨y, x, by rw [e10]; exact g1, by rw [e11]; exact g2, g3, g4, fun hp => th.mpr (g5 hp)⟩
  · rw [e7] at hne
    by_cases e : l = n
    · exact absurd (i4 l k (by omega) hk (by omega)) hne
    · exact th.mpr (i3 l k (by omega) hk hne j hj)
  · rw [e7]; exact i4 l k hl hk (by omega)
  · have hth' := th.mp hth
    by_cases e : l = n
    · have := i4 l k (by omega) hk (by omega)
      rw [TH, this] at hth'
      exact absurd hth' (by decide)
    · have hne : l ≠ n := e
      obtain ⟨y, x, g1, g2, g3, g4, g5⟩ := i5 l k t' (by omega) hk ((kd (by omega)).mp hkd) hth'
      refine ⟨y, x, by rw [e10]; exact g1, g2, by rw [e11]; exact g3, g4, ?_⟩
      unfold Dq at g5 ⊢
      unfold TH at g5 ⊢
      rw [e2, e3, e7, pk_un hne, pk_un hne]
      exact g5
theorem mn_made {Q : Int32 → MT} (h : RI v fi n m u) (hn : n < 24) (ht : t ≤ 16) (h0 : p0 = nI t) (h1 : 2 < t → ∃ a, a < n ∧ p1 = nI a) (h2 : t = 4 ∨ t = 11 → ∃ b, b < n ∧ p2 = nI b) (h3 : t = 0 → ∃ a, a ≤ 100 ∧ p1 = nI a) (h4 : t = 6 ∨ t = 7 → ∃ c, c ≤ 400 ∧ p3 = nI c)
    (hQ : ∀ v' fi' fl', RI v' fi' (n + 1) m u → v' 19 = v 19 → Q (nI n) v' w fi' fl') : P_X12_made v w fi fl p0 p1 p2 p3 y z Q := by
  have hv : vp_in (v 0) 24 := by rw [h.2.1]; exact vp_in_nI hn (by decide)
  refine ⟨hv, hv, hv, hv, hv, hv, ?_⟩
  rw [h.2.1, nI_clamp (n := n) (by omega), nIs, nI_pred]
  refine hQ _ _ _ ⟨IM.more h.1 hn ?_ ?_ ?_ ?_ ?_ ?_ ?_ ht h0 h1 h2 h3 h4, va_self, (va_up_ne _ _ (by decide)).trans h.2.2.1, h.2.2.2.1, (va_up_ne _ _ (by decide)).trans h.2.2.2.2.1, h.2.2.2.2.2⟩ (va_up_ne _ _ (by decide))
  · rw [va_up_ne _ _ (by decide : (1 : Nat) ≠ 4), va_up_ne _ _ (by decide : (1 : Nat) ≠ 3), va_up_ne _ _ (by decide : (1 : Nat) ≠ 2), va_self]
  · rw [va_up_ne _ _ (by decide : (2 : Nat) ≠ 4), va_up_ne _ _ (by decide : (2 : Nat) ≠ 3), va_self, va_up_ne _ _ (by decide : (2 : Nat) ≠ 1)]
  · rw [va_up_ne _ _ (by decide : (3 : Nat) ≠ 4), va_self, va_up_ne _ _ (by decide : (3 : Nat) ≠ 2), va_up_ne _ _ (by decide : (3 : Nat) ≠ 1)]
  · rw [va_self, va_up_ne _ _ (by decide : (4 : Nat) ≠ 3), va_up_ne _ _ (by decide : (4 : Nat) ≠ 2), va_up_ne _ _ (by decide : (4 : Nat) ≠ 1)]
  · rw [va_up_ne _ _ (by decide : (7 : Nat) ≠ 4), va_up_ne _ _ (by decide : (7 : Nat) ≠ 3), va_up_ne _ _ (by decide : (7 : Nat) ≠ 2), va_up_ne _ _ (by decide : (7 : Nat) ≠ 1)]
  · rw [va_up_ne _ _ (by decide : (10 : Nat) ≠ 4), va_up_ne _ _ (by decide : (10 : Nat) ≠ 3), va_up_ne _ _ (by decide : (10 : Nat) ≠ 2), va_up_ne _ _ (by decide : (10 : Nat) ≠ 1)]
  · rw [va_up_ne _ _ (by decide : (11 : Nat) ≠ 4), va_up_ne _ _ (by decide : (11 : Nat) ≠ 3), va_up_ne _ _ (by decide : (11 : Nat) ≠ 2), va_up_ne _ _ (by decide : (11 : Nat) ≠ 1)]
end MD
end H70
section H71
abbrev KS (n m u : Nat) (w : Nat → Int64) (Q : Int32 → MT) : Prop := ∀ v' fi' fl', RI v' fi' (n + 1) m u → v' 19 = 0 → Q (nI n) v' w fi' fl'
abbrev KF (n m u : Nat) (w : Nat → Int64) (fi : Nat → Nat → Int32) (fl : Nat → Nat → Int64) (c : Int32) (Q : Int32 → MT) : Prop := ∀ v', RI v' fi n m u → v' 19 = c → Q 0 v' w fi fl
section ME
variable {v v1 : Nat → Int32} {w : Nat → Int64} {fi fi' : Nat → Nat → Int32} {fl : Nat → Nat → Int64} {n m u a b k l t j : Nat} {r s c p0 p1 p2 p3 : Int32} {y z : Int64} {Q : Int32 → MT}
theorem mn_fail (h : RI v fi n m u) (hF : KF n m u w fi fl c Q) : P_X12_fail v w fi fl c Q := hF _ (h.up (by decide) (by decide) (by decide)) va_self
theorem RI.room (h : RI v fi n m u) : (¬ v 0 = 24 → n < 24) ∧ (v 0 = 24 → ¬ n < 24) := by
  have hn := h.1.1
  rw [h.2.1]
  refine ⟨fun e => ?_, fun e hlt => ?_⟩
  · rcases Nat.lt_or_ge n 24 with g | g
    · exact g
    · exact absurd (by rw [show n = 24 by omega]; rfl) e
  · have := nI_inj (a := n) (b := 24) (by omega) (by decide) e
    omega
theorem inL_of (hn : n ≤ 24) (ha : a < n) : inL (nI a) n := ⟨nI_pos (by omega), nI_ge ha (by omega)⟩
theorem in400 (h : inO p0 400) : ∃ c, c ≤ 400 ∧ p0 = nI c := by
  obtain ⟨j, hj, e⟩ := nI_of2 (n := 400) (M := 400) (by decide) h.1 h.2
  exact ⟨j, hj, e⟩
theorem r_count (h : RI v fi n m u) (hQ : n < 24 → KS n m u w Q) (hU : ¬ n < 24 → KF n m u w fi fl 1 Q) : P_X12_count v w fi fl y z Q := by
  have h' : RI (va_up v 19 0) fi n m u := h.up (by decide) (by decide) (by decide)
  exact ⟨fun e => mn_made (t := 1) h' (h'.room.1 e) (by decide) rfl (fun e => absurd e (by decide)) (fun e => absurd e (by decide)) (fun e => absurd e (by decide)) (fun e => absurd e (by decide)) (fun v' fi' fl' g g2 => hQ (h.room.1 e) _ _ _ g (g2.trans va_self)), fun e => mn_fail h' (hU (h.room.2 e))⟩
theorem r_iterate (h : RI v fi n m u) (hQ : inO p0 8 → n < 24 → KS n m u w Q) (hA : ¬ inO p0 8 → KF n m u w fi fl 1 Q) (hU : inO p0 8 → ¬ n < 24 → KF n m u w fi fl 2 Q) : P_X12_iterate v w fi fl p0 y z Q := by
  have h' : RI (va_up v 19 0) fi n m u := h.up (by decide) (by decide) (by decide)
  exact mn_isOp (fun g => ⟨fun e => absurd rfl e, fun _ => mn_fail h' (hA g)⟩) (fun g3 => ⟨fun _ => ⟨fun e => mn_made (t := 2) h' (h'.room.1 e) (by decide) rfl (fun e => absurd e (by decide)) (fun e => absurd e (by decide)) (fun e => absurd e (by decide)) (fun e => absurd e (by decide)) (fun v' fi' fl' g g2 => hQ g3 (h.room.1 e) _ _ _ g (g2.trans va_self)), fun e => mn_fail h' (hU g3 (h.room.2 e))⟩, fun e => absurd e (by decide)⟩)
theorem r_map (h : RI v fi n m u) (hQ : inL p0 n → inO p1 8 → n < 24 → KS n m u w Q) (hI : ¬ inL p0 n → KF n m u w fi fl 1 Q) (hA : inL p0 n → ¬ inO p1 8 → KF n m u w fi fl 2 Q) (hU : inL p0 n → inO p1 8 → ¬ n < 24 → KF n m u w fi fl 3 Q) : P_X12_map v w fi fl p0 p1 y Q := by
  have h' : RI (va_up v 19 0) fi n m u := h.up (by decide) (by decide) (by decide)
  have hn := h.1.1
  refine mn_isList h' (fun a ha ea => ⟨fun _ => ?_, fun e => absurd e (by decide)⟩) (fun g => ⟨fun e => absurd rfl e, fun _ => mn_fail h' (hI g)⟩)
  subst ea
  have iL := inL_of hn ha
  exact mn_isOp (fun g => ⟨fun e => absurd rfl e, fun _ => mn_fail h' (hA iL g)⟩) (fun g3 => ⟨fun _ => ⟨fun e => mn_made (t := 3) h' (h'.room.1 e) (by decide) rfl (fun _ => ⟨_, ha, rfl⟩) (fun e => absurd e (by decide)) (fun e => absurd e (by decide)) (fun e => absurd e (by decide)) (fun v' fi' fl' g g2 => hQ iL g3 (h'.room.1 e) _ _ _ g (g2.trans va_self)), fun e => mn_fail h' (hU iL g3 (h'.room.2 e))⟩, fun e => absurd e (by decide)⟩)
theorem r_scan (h : RI v fi n m u) (hQ : inL p0 n → inO p1 8 → n < 24 → KS n m u w Q) (hI : ¬ inL p0 n → KF n m u w fi fl 1 Q) (hA : inL p0 n → ¬ inO p1 8 → KF n m u w fi fl 2 Q) (hU : inL p0 n → inO p1 8 → ¬ n < 24 → KF n m u w fi fl 3 Q) : P_X12_scan v w fi fl p0 p1 y Q := by
  have h' : RI (va_up v 19 0) fi n m u := h.up (by decide) (by decide) (by decide)
  have hn := h.1.1
  refine mn_isList h' (fun a ha ea => ⟨fun _ => ?_, fun e => absurd e (by decide)⟩) (fun g => ⟨fun e => absurd rfl e, fun _ => mn_fail h' (hI g)⟩)
  subst ea
  have iL := inL_of hn ha
  exact mn_isOp (fun g => ⟨fun e => absurd rfl e, fun _ => mn_fail h' (hA iL g)⟩) (fun g3 => ⟨fun _ => ⟨fun e => mn_made (t := 5) h' (h'.room.1 e) (by decide) rfl (fun _ => ⟨_, ha, rfl⟩) (fun e => absurd e (by decide)) (fun e => absurd e (by decide)) (fun e => absurd e (by decide)) (fun v' fi' fl' g g2 => hQ iL g3 (h'.room.1 e) _ _ _ g (g2.trans va_self)), fun e => mn_fail h' (hU iL g3 (h'.room.2 e))⟩, fun e => absurd e (by decide)⟩)
theorem r_both (h : RI v fi n m u) (hQ : inL p0 n → inL p1 n → inO p2 8 → n < 24 → KS n m u w Q) (hI : ¬ (inL p0 n ∧ inL p1 n) → KF n m u w fi fl 1 Q) (hA : inL p0 n → inL p1 n → ¬ inO p2 8 → KF n m u w fi fl 2 Q) (hU : inL p0 n → inL p1 n → inO p2 8 → ¬ n < 24 → KF n m u w fi fl 3 Q) : P_X12_both v w fi fl p0 p1 p2 Q := by
  have h' : RI (va_up v 19 0) fi n m u := h.up (by decide) (by decide) (by decide)
  have hn := h.1.1
  refine mn_isList h' (fun a ha ea => ⟨fun e => absurd e (by decide), fun _ => mn_isList h' (fun b hb eb => ⟨fun _ => ?_, fun e => absurd e (by decide)⟩) (fun g => ⟨fun e => absurd rfl e, fun _ => mn_fail h' (hI (fun c => g c.2))⟩)⟩) (fun g => ⟨fun _ => mn_fail h' (hI (fun c => g c.1)), fun e => absurd rfl e⟩)
  subst ea eb
  have iL := inL_of hn ha
  have iL2 := inL_of hn hb
  exact mn_isOp (fun g => ⟨fun e => absurd rfl e, fun _ => mn_fail h' (hA iL iL2 g)⟩) (fun g3 => ⟨fun _ => ⟨fun e => mn_made (t := 4) h' (h'.room.1 e) (by decide) rfl (fun _ => ⟨_, ha, rfl⟩) (fun _ => ⟨_, hb, rfl⟩) (fun e => absurd e (by decide)) (fun e => absurd e (by decide)) (fun v' fi' fl' g g2 => hQ iL iL2 g3 (h'.room.1 e) _ _ _ g (g2.trans va_self)), fun e => mn_fail h' (hU iL iL2 g3 (h'.room.2 e))⟩, fun e => absurd e (by decide)⟩)
theorem r_join (h : RI v fi n m u) (hQ : inL p0 n → inL p1 n → n < 24 → KS n m u w Q) (hI : ¬ (inL p0 n ∧ inL p1 n) → KF n m u w fi fl 1 Q) (hU : inL p0 n → inL p1 n → ¬ n < 24 → KF n m u w fi fl 2 Q) : P_X12_join v w fi fl p0 p1 Q := by
  have h' : RI (va_up v 19 0) fi n m u := h.up (by decide) (by decide) (by decide)
  have hn := h.1.1
  refine mn_isList h' (fun a ha ea => ⟨fun e => absurd e (by decide), fun _ => mn_isList h' (fun b hb eb => ⟨fun _ => ?_, fun e => absurd e (by decide)⟩) (fun g => ⟨fun e => absurd rfl e, fun _ => mn_fail h' (hI (fun c => g c.2))⟩)⟩) (fun g => ⟨fun _ => mn_fail h' (hI (fun c => g c.1)), fun e => absurd rfl e⟩)
  subst ea eb
  have iL := inL_of hn ha
  have iL2 := inL_of hn hb
  exact ⟨fun e => mn_made (t := 11) h' (h'.room.1 e) (by decide) rfl (fun _ => ⟨_, ha, rfl⟩) (fun _ => ⟨_, hb, rfl⟩) (fun e => absurd e (by decide)) (fun e => absurd e (by decide)) (fun v' fi' fl' g g2 => hQ iL iL2 (h'.room.1 e) _ _ _ g (g2.trans va_self)), fun e => mn_fail h' (hU iL iL2 (h'.room.2 e))⟩
theorem r_some (h' : RI v fi n m u) (h19 : v 19 = 0) (ht : p2 = nI t) (ht2 : t = 6 ∨ t = 7) (hQ : inL p0 n → inO p1 400 → n < 24 → KS n m u w Q) (hI : ¬ inL p0 n → KF n m u w fi fl 1 Q) (hA : inL p0 n → ¬ inO p1 400 → KF n m u w fi fl 2 Q) (hU : inL p0 n → inO p1 400 → ¬ n < 24 → KF n m u w fi fl 3 Q) : P_X12_some v w fi fl p2 p0 p1 Q := by
  have hn := h'.1.1
  refine mn_isList h' (fun a ha ea => ⟨fun _ => ?_, fun e => absurd e (by decide)⟩) (fun g => ⟨fun e => absurd rfl e, fun _ => mn_fail h' (hI g)⟩)
  subst ea
  have iL := inL_of hn ha
  exact ⟨fun g => mn_fail h' (hA iL (fun c => c.1 g)), fun g => ⟨fun g2 => ⟨fun e => mn_made (t := t) h' (h'.room.1 e) (by omega) ht (fun _ => ⟨_, ha, rfl⟩) (fun e => by omega) (fun e => by omega) (fun _ => in400 ⟨g, g2⟩) (fun v' fi' fl' q q2 => hQ iL ⟨g, g2⟩ (h'.room.1 e) _ _ _ q (q2.trans h19)), fun e => mn_fail h' (hU iL ⟨g, g2⟩ (h'.room.2 e))⟩, fun g2 => mn_fail h' (hA iL (fun c => g2 c.2))⟩⟩
theorem r_by (h' : RI v fi n m u) (h19 : v 19 = 0) (ht : p2 = nI t) (ht2 : t = 8 ∨ t = 9 ∨ t = 10) (hQ : inL p0 n → inO p1 3 → n < 24 → KS n m u w Q) (hI : ¬ inL p0 n → KF n m u w fi fl 1 Q) (hA : inL p0 n → ¬ inO p1 3 → KF n m u w fi fl 2 Q) (hU : inL p0 n → inO p1 3 → ¬ n < 24 → KF n m u w fi fl 3 Q) : P_X12_by v w fi fl p2 p0 p1 y Q := by
  have hn := h'.1.1
  refine mn_isList h' (fun a ha ea => ⟨fun _ => ?_, fun e => absurd e (by decide)⟩) (fun g => ⟨fun e => absurd rfl e, fun _ => mn_fail h' (hI g)⟩)
  subst ea
  have iL := inL_of hn ha
  exact mn_isCond (fun g => ⟨fun e => absurd rfl e, fun _ => mn_fail h' (hA iL g)⟩) (fun g3 => ⟨fun _ => ⟨fun e => mn_made (t := t) h' (h'.room.1 e) (by omega) ht (fun _ => ⟨_, ha, rfl⟩) (fun e => by omega) (fun e => by omega) (fun e => by omega) (fun v' fi' fl' g g2 => hQ iL g3 (h'.room.1 e) _ _ _ g (g2.trans h19)), fun e => mn_fail h' (hU iL g3 (h'.room.2 e))⟩, fun e => absurd e (by decide)⟩)
theorem r_other (h : RI v fi n m u) (hQ : inL p0 n → inO p1 4 → n < 24 → KS n m u w Q) (hI : ¬ inL p0 n → KF n m u w fi fl 1 Q) (hA : inL p0 n → ¬ inO p1 4 → KF n m u w fi fl 2 Q) (hU : inL p0 n → inO p1 4 → ¬ n < 24 → KF n m u w fi fl 3 Q) : P_X12_other v w fi fl p0 p1 Q := by
  have h' : RI (va_up v 19 0) fi n m u := h.up (by decide) (by decide) (by decide)
  have hn := h.1.1
  refine mn_isList h' (fun a ha ea => ⟨fun _ => ?_, fun e => absurd e (by decide)⟩) (fun g => ⟨fun e => absurd rfl e, fun _ => mn_fail h' (hI g)⟩)
  subst ea
  have iL := inL_of hn ha
  refine ⟨fun g => mn_fail h' (hA iL (fun c => c.1 g)), fun g => ⟨fun g2 => ⟨fun e => ?_, fun e => mn_fail h' (hU iL ⟨g, g2⟩ (h'.room.2 e))⟩, fun g2 => mn_fail h' (hA iL (fun c => g2 c.2))⟩⟩
  obtain ⟨j, hj, rfl⟩ := nI_of2 (n := 4) (M := 4) (by decide) g g2
  rw [show (12 : Int32) = nI 12 from rfl, nI_add]
  exact mn_made (t := 12 + j) h' (h'.room.1 e) (by omega) rfl (fun _ => ⟨_, ha, rfl⟩) (fun e => by omega) (fun e => by omega) (fun e => by omega) (fun v' fi' fl' q q2 => hQ iL ⟨g, g2⟩ (h'.room.1 e) _ _ _ q (q2.trans va_self))
end ME
end H71
section H72
section MF
variable {v v1 : Nat → Int32} {w : Nat → Int64} {fi fi' : Nat → Nat → Int32} {fl : Nat → Nat → Int64} {n m u a b k l t j : Nat} {r s c p0 p1 p2 p3 : Int32} {y z : Int64} {Q : Int32 → MT}
theorem RI.arr {i : Nat} {f : Nat → Int32} (h : RI v fi n m u) (hi : 11 < i) : RI v (va_up fi i f) n m u := by
  have e : ∀ k, k ≤ 11 → va_up fi i f k = fi k := fun k hk => va_up_ne _ _ (by omega)
  exact ⟨h.1.cg (e _ (by decide)) (e _ (by decide)) (e _ (by decide)) (e _ (by decide)) (e _ (by decide)) (e _ (by decide)) (e _ (by decide)), h.2⟩
theorem RI.rowUp {x : Int32} {k : Nat} (h : RI v fi n m u) (hk : k ≤ 100) (hx : x = nI k) : RI (va_up v 12 x) fi n k u := ⟨h.1, (va_up_ne _ _ (by decide)).trans h.2.1, va_self.trans hx, hk, (va_up_ne _ _ (by decide)).trans h.2.2.2.2.1, h.2.2.2.2.2⟩
theorem RI.row (h : RI v fi n m u) : (¬ v 12 = 100 → m < 100) ∧ (v 12 = 100 → ¬ m < 100) := by
  have hm := h.2.2.2.1
  rw [h.2.2.1]
  refine ⟨fun e => ?_, fun e hlt => ?_⟩
  · rcases Nat.lt_or_ge m 100 with g | g
    · exact g
    · exact absurd (by rw [show m = 100 by omega]; rfl) e
  · have := nI_inj (a := m) (b := 100) (by omega) (by decide) e
    omega
theorem r_put (h : RI v fi n m u) (hQ : m < 100 → ∀ v' fi' fl', RI v' fi' n (m + 1) u → v' 19 = 0 → Q (nI (m + 1)) v' w fi' fl') (hU : ¬ m < 100 → KF n m u w fi fl 1 Q) : P_X12_put v w fi fl y Q := by
  have h' : RI (va_up v 19 0) fi n m u := h.up (by decide) (by decide) (by decide)
  refine ⟨fun e => ?_, fun e => mn_fail h' (hU (h.row.2 e))⟩
  have hlt := h.row.1 e
  have hv : vp_in (v 12) 100 := by rw [h.2.2.1]; exact vp_in_nI hlt (by decide)
  refine ⟨hv, hv, ?_⟩
  rw [h.2.2.1, nIs]
  exact hQ hlt _ _ _ ((h'.rowUp (by omega) rfl).arr (by decide)) ((va_up_ne _ _ (by decide)).trans va_self)
theorem r_hole (h : RI v fi n m u) (hQ : (p0 = 0 ∨ p0 = 1) → m < 100 → ∀ v' fi' fl', RI v' fi' n (m + 1) u → v' 19 = 0 → Q (nI (m + 1)) v' w fi' fl') (hA : ¬ (p0 = 0 ∨ p0 = 1) → KF n m u w fi fl 1 Q) (hU : (p0 = 0 ∨ p0 = 1) → ¬ m < 100 → KF n m u w fi fl 2 Q) : P_X12_hole v w fi fl p0 Q := by
  have h' : RI (va_up v 19 0) fi n m u := h.up (by decide) (by decide) (by decide)
  refine ⟨fun e0 => ⟨fun e => ?_, fun e => mn_fail h' (hU (Or.inl e0) (h.row.2 e))⟩, fun e0 => ⟨fun e1 => ⟨fun e => ?_, fun e => mn_fail h' (hU (Or.inr e1) (h.row.2 e))⟩, fun e1 => mn_fail h' (hA (fun c => c.elim e0 e1))⟩⟩
  · have hlt := h.row.1 e
    refine ⟨by rw [h.2.2.1]; exact vp_in_nI hlt (by decide), ?_⟩
    rw [h.2.2.1, nIs]
    exact hQ (Or.inl e0) hlt _ _ _ ((h'.rowUp (by omega) rfl).arr (by decide)) ((va_up_ne _ _ (by decide)).trans va_self)
  · have hlt := h.row.1 e
    refine ⟨by rw [h.2.2.1]; exact vp_in_nI hlt (by decide), ?_⟩
    rw [h.2.2.1, nIs]
    exact hQ (Or.inr e1) hlt _ _ _ ((h'.rowUp (by omega) rfl).arr (by decide)) ((va_up_ne _ _ (by decide)).trans va_self)
theorem r_steps (h : RI v fi n m u) (hQ : (¬ p0 < 1 ∧ p0 ≤ 5000) → ∀ v' u', p0 = nI u' → RI v' fi n m u' → v' 19 = 0 → Q (nI u) v' w fi fl) (hA : ¬ (¬ p0 < 1 ∧ p0 ≤ 5000) → KF n m u w fi fl 1 Q) : P_X12_steps v w fi fl p0 Q := by
  have h' : RI (va_up v 19 0) fi n m u := h.up (by decide) (by decide) (by decide)
  refine ⟨fun e => mn_fail h' (hA (fun c => c.1 e)), fun e => ⟨fun e5 => ?_, fun e5 => mn_fail h' (hA (fun c => e5 c.2))⟩⟩
  have h0 : ¬ p0 < 0 := fun g => e (Int32.lt_trans g (by decide))
  obtain ⟨x, hx, rfl⟩ := nI_of2 (n := 5000) (M := 5000) (by decide) h0 e5
  have hx1 : 1 ≤ x := by
    rcases Nat.eq_zero_or_pos x with g | g
    · rw [g] at e; exact absurd (by decide) e
    · exact g
  rw [h.2.2.2.2.1]
  exact hQ ⟨e, e5⟩ _ x rfl ⟨h.1, (va_up_ne _ _ (by decide)).trans h'.2.1, (va_up_ne _ _ (by decide)).trans h'.2.2.1, h.2.2.2.1, va_self, hx1, hx⟩ ((va_up_ne _ _ (by decide)).trans va_self)
theorem r_given (h : RI v fi n m u) (hQ : n < 24 → KS n 0 u w Q) (hU : ¬ n < 24 → KF n m u w fi fl 1 Q) : P_X12_given v w fi fl p0 Q := by
  have h' : RI (va_up v 19 0) fi n m u := h.up (by decide) (by decide) (by decide)
  have hm := h.2.2.2.1
  refine ⟨fun e => ?_, fun e => mn_fail h' (hU (h.room.2 e))⟩
  have hlt := h.room.1 e
  have key : ∀ (f j : Nat) (fi : Nat → Nat → Int32) (fl : Nat → Nat → Int64), m - j < f → j ≤ m → RI (va_up v 19 0) fi n m u → P_X12_given_22 Q f (va_up v 19 0) w fi fl p0 (nI j) := by
    intro f
    induction f with
    | zero => intro j fi fl hf; exact absurd hf (Nat.not_lt_zero _)
    | succ f ih =>
      intro j fi fl hf hj h
      have h2 : RI (va_up (va_up v 19 0) 12 0) fi n 0 u := h.rowUp (by decide) rfl
      have e12 : va_up v 19 0 12 = nI m := h.2.2.1
      have e19 : va_up (va_up v 19 0) 12 0 19 = 0 := (va_up_ne _ _ (by decide)).trans va_self
      unfold P_X12_given_22 B_X12_given_22
      rw [e12, h.2.1]
      refine ⟨fun _ => ⟨fun _ => ?_, fun _ => ?_⟩, fun hg => ?_⟩
      · exact mn_made (t := 0) h2 hlt (by decide) rfl (fun e => absurd e (by decide)) (fun e => absurd e (by decide)) (fun _ => ⟨m, hm, rfl⟩) (fun e => absurd e (by decide)) (fun v' fi' fl' g g2 => hQ hlt _ _ _ g (g2.trans e19))
      · exact mn_made (t := 0) h2 hlt (by decide) rfl (fun e => absurd e (by decide)) (fun e => absurd e (by decide)) (fun _ => ⟨m, hm, rfl⟩) (fun e => absurd e (by decide)) (fun v' fi' fl' g g2 => hQ hlt _ _ _ g (g2.trans e19))
      · have hjm : j < m := by
          rcases Nat.lt_or_ge j m with g | g
          · exact g
          · exact absurd (nI_le g (by omega)) hg
        have hv1 : vp_in (nI j) 100 := vp_in_nI (by omega) (by decide)
        rw [pl100]
        have hv2 : vp_in (nI (100 * n + j)) 2400 := vp_in_nI (by omega) (by decide)
        refine ⟨hv1, hv2, hv1, hv2, ?_⟩
        rw [nIs]
        exact ih (j + 1) _ _ (by omega) (by omega) (h.arr (by decide))
  exact ⟨_, key _ 0 _ _ (Nat.lt_succ_self _) (Nat.zero_le _) h'⟩
end MF
end H72
section H73
theorem IM.zero : IM (fun _ _ => 0) 0 := ⟨by decide, fun l h => absurd h (Nat.not_lt_zero _), fun l k _ _ => ⟨0, 0, rfl, rfl, by decide, Nat.zero_le _, fun h => absurd h (Nat.not_lt_zero _)⟩, fun l k h => absurd h (Nat.not_lt_zero _), fun _ _ _ _ _ => rfl, fun l k t h => absurd h (Nat.not_lt_zero _)⟩
def v0 : Nat → Int32 := fun k => if k = 15 then 1000 else 0
theorem RI.start : RI v0 (fun _ _ => 0) 0 0 1000 := ⟨IM.zero, rfl, rfl, by decide, rfl, by decide, by decide⟩
/-- the object as its constructor leaves it -/
def sh0 (h0 hm h1 h2 h3 : Nat) (cx : Nat → ClassId) : Sh := ([h0, hm, h1, h2, h3], fun q => if q = h0 then 10 else if q = hm then 5 else if q = h1 then 23 else if q = h2 then 22 else 21, fun q => if q = h1 then 24 else 100, fun q => if q = h1 then cx 1 else if q = h2 then cx 2 else cx 3, fun q k => if q = h0 then (match k with | 0 => some hm | 1 => some h1 | 2 => some h2 | 3 => some h3 | _ => none) else none, fun _ _ => 0, fun _ _ => none)
def ci0 (h0 : Nat) : Nat → Nat → Int32 := fun q k => if q = h0 ∧ k = 6 then 1000 else 0
theorem XI.start {h0 hm h1 h2 h3 : Nat} {cx : Nat → ClassId} (n1 : hm ≠ h0) (n2 : h1 ≠ h0) (n3 : h2 ≠ h0) (n4 : h3 ≠ h0) (n5 : h1 ≠ hm) (n6 : h2 ≠ hm) (n7 : h3 ≠ hm) (n8 : h2 ≠ h1) (n9 : h3 ≠ h1) (n10 : h3 ≠ h2) : XI (sh0 h0 hm h1 h2 h3 cx) (fun _ => 0) h0 (ci0 h0) (fun _ _ => 0) 0 0 (nI 1000) := by
  have k0 : sK (sh0 h0 hm h1 h2 h3 cx) h0 = 10 := by simp [sK, sh0]
  have k1 : sK (sh0 h0 hm h1 h2 h3 cx) hm = 5 := by simp [sK, sh0, n1]
  have k2 : sK (sh0 h0 hm h1 h2 h3 cx) h1 = 23 := by simp [sK, sh0, n2, n5]
  have k3 : sK (sh0 h0 hm h1 h2 h3 cx) h2 = 22 := by simp [sK, sh0, n3, n6, n8]
  have k4 : sK (sh0 h0 hm h1 h2 h3 cx) h3 = 21 := by simp [sK, sh0, n4, n7, n9, n10]
  have mem : ∀ {q : Nat}, q ∈ sL (sh0 h0 hm h1 h2 h3 cx) → q = h0 ∨ q = hm ∨ q = h1 ∨ q = h2 ∨ q = h3 := fun {q} h => by
    have h' : q ∈ [h0, hm, h1, h2, h3] := h
    simpa using h'
  have noz : ∀ q, ¬ LZ (sh0 h0 hm h1 h2 h3 cx) q := fun q h => by
    have hz := h.2
    rcases mem h.1 with rfl | rfl | rfl | rfl | rfl
    · rw [k0] at hz; exact absurd hz (by decide)
    · rw [k1] at hz; exact absurd hz (by decide)
    · rw [k2] at hz; exact absurd hz (by decide)
    · rw [k3] at hz; exact absurd hz (by decide)
    · rw [k4] at hz; exact absurd hz (by decide)
  have inl : ∀ {q : Nat}, (q = h0 ∨ q = hm ∨ q = h1 ∨ q = h2 ∨ q = h3) → q ∈ sL (sh0 h0 hm h1 h2 h3 cx) := fun {q} h => by
    show q ∈ [h0, hm, h1, h2, h3]
    simpa using h
  have no3 : ∀ q, q ∈ sL (sh0 h0 hm h1 h2 h3 cx) → ¬ sK (sh0 h0 hm h1 h2 h3 cx) q = 3 := fun q h e => noz q ⟨h, by rw [e]; decide⟩
  refine ⟨fun q h => absurd h (noz q), ⟨fun _ _ _ _ => m8_0, fun q h e => absurd e (no3 q h), fun q h e => absurd e (no3 q h), fun q h => absurd h (noz q)⟩, ⟨inl (Or.inl rfl), k0⟩, ⟨hm, by simp [sR, sh0], inl (Or.inr (Or.inl rfl)), k1⟩, ⟨h1, by simp [sR, sh0], inl (Or.inr (Or.inr (Or.inl rfl))), k2, by simp [sN, sh0], fun i hi => absurd hi (Nat.not_lt_zero _)⟩, ⟨h2, by simp [sR, sh0], inl (Or.inr (Or.inr (Or.inr (Or.inl rfl)))), k3, by simp [sN, sh0, n8]⟩, ⟨h3, by simp [sR, sh0], inl (Or.inr (Or.inr (Or.inr (Or.inr rfl)))), k4, by simp [sN, sh0, n9], fun j hj => absurd hj (Nat.not_lt_zero _)⟩, fun q h => absurd h (noz q), by decide, by decide, by simp [ci0]; rfl, by simp [ci0]; rfl, by simp [ci0]; rfl⟩
end H73
