/-- what holds of the reference between calls -/
def RI (v : Nat → Int32) (fi : Nat → Nat → Int32) (n m u : Nat) : Prop := IM fi n ∧ v 0 = nI n ∧ v 12 = nI m ∧ m ≤ 100 ∧ v 15 = nI u ∧ 1 ≤ u ∧ u ≤ 5000
def RJ (v : Nat → Int32) (fi : Nat → Nat → Int32) (n m u : Nat) : Prop := RI v fi n m u ∧ ∃ s, v 16 = nI s ∧ s ≤ u
abbrev Kx {α : Type} (n m u : Nat) (Q : α → MT) : Prop := ∀ r v' w' fi' fl', RI v' fi' n m u → Q r v' w' fi' fl'
section MA
variable {v v1 : Nat → Int32} {w : Nat → Int64} {fi fi' : Nat → Nat → Int32} {fl : Nat → Nat → Int64} {n m u a b k l t j : Nat} {r s p0 p1 : Int32} {y : Int64}
theorem v20 : vp_in (0 : Int32) 20000 := vp_in_nI (show 0 < 20000 by decide) (by decide)
theorem v21 : vp_in ((1 : Int32) - 1) 20000 := by rw [show (1 : Int32) - 1 = 0 by decide]; exact v20
theorem RI.up {i : Nat} {x : Int32} (h : RI v fi n m u) (h0 : i ≠ 0) (h12 : i ≠ 12) (h15 : i ≠ 15) : RI (va_up v i x) fi n m u := ⟨h.1, (va_up_ne _ _ h0.symm).trans h.2.1, (va_up_ne _ _ h12.symm).trans h.2.2.1, h.2.2.2.1, (va_up_ne _ _ h15.symm).trans h.2.2.2.2.1, h.2.2.2.2.2⟩
theorem mn_meetC {Q : Int32 → MT} (h : RJ v fi n m u) (hl : l < n) (hk : k < 400) (ht : ∀ i, i < k → TH fi l i) (hK : ∀ r v' w' fi' fl', RJ v' fi' n m u → Mo fi fi' → Q r v' w' fi' fl') : P_X12_meet v w fi fl (nI (2 * (400 * l + k))) Q := by
  obtain ⟨⟨I, g0, g12, gm, g15, g1, g5⟩, s, hs, hsu⟩ := h
  have hn := I.1
  refine ⟨v20, ?_⟩
  have e31 : va_up fi 31 (upd (fi 31) (0 : Int32).toNatClampNeg (nI (2 * (400 * l + k)))) 31 0 = nI (2 * (400 * l + k)) := by rw [va_self]; rfl
  have ne : ∀ i, i ≠ 31 → va_up fi 31 (upd (fi 31) (0 : Int32).toNatClampNeg (nI (2 * (400 * l + k)))) i = fi i := fun i hi => va_up_ne _ _ hi
  generalize va_up fi 31 (upd (fi 31) (0 : Int32).toNatClampNeg (nI (2 * (400 * l + k)))) = f2 at e31 ne
  have I2 : IM f2 n := I.cg (ne _ (by decide)) (ne _ (by decide)) (ne _ (by decide)) (ne _ (by decide)) (ne _ (by decide)) (ne _ (by decide)) (ne _ (by decide))
  have M2 : Mo fi f2 := ⟨ne _ (by decide), ne _ (by decide), ne _ (by decide), ne _ (by decide), fun q _ => congrFun (ne 7 (by decide)) q⟩
  have K2 : KMe n u v f2 Q := fun r9 v9 w9 fi9 fl9 s9 I9 M9 q0 q12 q15 q16 qs => hK _ _ _ _ _ ⟨⟨I9, q0.trans g0, q12.trans g12, gm, q15, g1, g5⟩, s9, q16, qs⟩ (M2.tr M9)
  by_cases h0 : fi 7 (400 * l + k) = 0
  · refine ⟨_, mn_meet_loop _ 1 s _ _ _ _ (Nat.lt_succ_self _) I2 ⟨fun i hi => ?_, fun i j hij hj => by omega⟩ g15 hs hsu g5 K2⟩
    rw [show i = 0 by omega, e31]
    exact Or.inl ⟨l, k, hl, hk, by omega, rfl, by rw [ne 7 (by decide)]; exact h0, fun i hi => M2.th (ht i hi)⟩
  · refine ⟨2, fun h => absurd h (by decide), fun _ => ⟨v21, ?_⟩⟩
    have ez : nI (2 * (400 * l + k)) / 2 = nI (400 * l + k) := by
      rw [show (2 : Int32) = nI 2 from rfl, pk_div (by omega) (by decide) (by decide)]
      congr 1; omega
    have er : nI (2 * (400 * l + k)) - nI (2 * (400 * l + k)) / 2 * 2 = nI 0 := by
      rw [show (2 : Int32) = nI 2 from rfl, pk_rem (by omega) (by decide) (by decide)]
      congr 1; omega
    rintro z rfl
    refine ⟨v21, ?_⟩
    rw [show ((1 : Int32) - 1).toNatClampNeg = 0 by decide, e31, er, ez, nI_clamp (n := 400 * l + k) (by omega)]
    refine ⟨fun _ => ⟨vp_in_nI (by omega) (by decide), fun e => absurd (by rw [ne 7 (by decide)] at e; exact e) h0, fun _ => ?_⟩, fun e => absurd e (by decide)⟩
    exact ⟨fun _ => K2 _ _ _ _ _ s I2 Mo.rf rfl rfl g15 hs hsu, fun e => absurd (by decide) e⟩
theorem mn_meetI {Q : Int32 → MT} (h : RJ v fi n m u) (hl : l < n) (hk : k < 400) (ht : TH fi l k) (h10 : fi 10 (400 * l + k) = 0) (hK : ∀ r v' w' fi' fl', RJ v' fi' n m u → Mo fi fi' → Q r v' w' fi' fl') : P_X12_meet v w fi fl (nI (2 * (400 * l + k) + 1)) Q := by
  obtain ⟨⟨I, g0, g12, gm, g15, g1, g5⟩, s, hs, hsu⟩ := h
  have hn := I.1
  refine ⟨v20, ?_⟩
  have e31 : va_up fi 31 (upd (fi 31) (0 : Int32).toNatClampNeg (nI (2 * (400 * l + k) + 1))) 31 0 = nI (2 * (400 * l + k) + 1) := by rw [va_self]; rfl
  have ne : ∀ i, i ≠ 31 → va_up fi 31 (upd (fi 31) (0 : Int32).toNatClampNeg (nI (2 * (400 * l + k) + 1))) i = fi i := fun i hi => va_up_ne _ _ hi
  generalize va_up fi 31 (upd (fi 31) (0 : Int32).toNatClampNeg (nI (2 * (400 * l + k) + 1))) = f2 at e31 ne
  have I2 : IM f2 n := I.cg (ne _ (by decide)) (ne _ (by decide)) (ne _ (by decide)) (ne _ (by decide)) (ne _ (by decide)) (ne _ (by decide)) (ne _ (by decide))
  have M2 : Mo fi f2 := ⟨ne _ (by decide), ne _ (by decide), ne _ (by decide), ne _ (by decide), fun q _ => congrFun (ne 7 (by decide)) q⟩
  have K2 : KMe n u v f2 Q := fun r9 v9 w9 fi9 fl9 s9 I9 M9 q0 q12 q15 q16 qs => hK _ _ _ _ _ ⟨⟨I9, q0.trans g0, q12.trans g12, gm, q15, g1, g5⟩, s9, q16, qs⟩ (M2.tr M9)
  by_cases h0 : fi 8 (400 * l + k) = 0
  · refine ⟨_, mn_meet_loop _ 1 s _ _ _ _ (Nat.lt_succ_self _) I2 ⟨fun i hi => ?_, fun i j hij hj => by omega⟩ g15 hs hsu g5 K2⟩
    rw [show i = 0 by omega, e31]
    exact Or.inr ⟨l, k, hl, hk, by omega, rfl, by rw [ne 8 (by decide)]; exact h0, M2.th ht, by rw [ne 10 (by decide)]; exact h10⟩
  · refine ⟨2, fun h => absurd h (by decide), fun _ => ⟨v21, ?_⟩⟩
    have ez : nI (2 * (400 * l + k) + 1) / 2 = nI (400 * l + k) := by
      rw [show (2 : Int32) = nI 2 from rfl, pk_div (by omega) (by decide) (by decide)]
      congr 1; omega
    have er : nI (2 * (400 * l + k) + 1) - nI (2 * (400 * l + k) + 1) / 2 * 2 = nI 1 := by
      rw [show (2 : Int32) = nI 2 from rfl, pk_rem (by omega) (by decide) (by decide)]
      congr 1; omega
    rintro z rfl
    refine ⟨v21, ?_⟩
    rw [show ((1 : Int32) - 1).toNatClampNeg = 0 by decide, e31, er, ez, nI_clamp (n := 400 * l + k) (by omega)]
    refine ⟨fun e => absurd rfl e, fun _ => ⟨vp_in_nI (by omega) (by decide), fun e => absurd (by rw [ne 8 (by decide)] at e; exact e) h0, fun _ => ?_⟩⟩
    exact ⟨fun _ => K2 _ _ _ _ _ s I2 Mo.rf rfl rfl g15 hs hsu, fun e => absurd (by decide) e⟩
theorem mn_reach {Q : Int32 → MT} (h : RJ v fi n m u) (ha : a < n) (hj : j ≤ 400) (ht : ∀ i, i < j → TH fi a i) (hK : ∀ r v' w' fi' fl', RJ v' fi' n m u → Mo fi fi' → (r = 1 → j < 400 ∧ TH fi' a j) → Q r v' w' fi' fl') : P_X12_reach v w fi fl (nI a) (nI j) Q := by
  have hn := h.1.1.1
  refine ⟨fun hlt => ?_, fun _ => hK _ _ _ _ _ h Mo.rf (fun e => absurd e (by decide))⟩
  have hj4 : j < 400 := (nI_ltI (a := j) (b := 400) (by omega) (by decide)).mp hlt
  unfold P_X12_place
  rw [pl]
  dsimp only
  rw [dbl]
  refine mn_meetC h ha hj4 ht (fun r v' w' fi' fl' h' M' => ⟨fun _ => hK _ _ _ _ _ h' M' (fun e => absurd e (by decide)), fun _ => ⟨vp_in_nI (by omega) (by decide), ?_⟩⟩)
  rw [nI_clamp (n := 400 * a + j) (by omega)]
  exact hK _ _ _ _ _ h' M' (fun e => ⟨hj4, e⟩)
theorem mn_work {Q : Int32 → MT} (h : RJ v fi n m u) (ha : a < n) (hk : k < 400) (ht : TH fi a k) (hK : ∀ r v' w' fi' fl', RJ v' fi' n m u → Mo fi fi' → Q r v' w' fi' fl') : P_X12_work v w fi fl (nI a) (nI k) Q := by
  have hn := h.1.1.1
  refine mn_ownPlace h.1.1 (by omega) hk ht (fun l j h1 h2 h3 h4 h5 => ?_)
  rw [dbl, nIs]
  exact mn_meetI h (by omega) h2 h4 h5 (fun r v' w' fi' fl' h' M' => ⟨fun _ => ⟨vp_in_nI (by omega) (by decide), vp_in_nI (by omega) (by decide), hK _ _ _ _ _ h' M'⟩, fun _ => hK _ _ _ _ _ h' M'⟩)
theorem mn_failed {Q : Int64 → MT} (h : RI v fi n m u) (hK : Kx n m u Q) : P_X12_failed v w fi fl p0 Q := ⟨fun _ => hK _ _ _ _ _ ((h.up (by decide) (by decide) (by decide)).up (by decide) (by decide) (by decide)), fun _ => hK _ _ _ _ _ ((h.up (by decide) (by decide) (by decide)).up (by decide) (by decide) (by decide))⟩
theorem mn_told {Q : Int64 → MT} (h : RI v fi n m u) (hK : Kx n m u Q) : P_X12_told v w fi fl p0 Q := ⟨fun _ => ⟨fun _ => mn_failed h hK, fun _ => hK _ _ _ _ _ h⟩, fun _ => hK _ _ _ _ _ (h.up (by decide) (by decide) (by decide))⟩
theorem mn_isList {Q : Int32 → MT} (h : RI v fi n m u) (h1 : ∀ a, a < n → p0 = nI a → Q 1 v w fi fl) (h0 : ¬ inL p0 n → Q 0 v w fi fl) : P_X12_isList v w fi fl p0 Q := by
  have hn := h.1.1
  refine ⟨fun e => h0 (fun c => c.1 e), fun e => ⟨fun e2 => h0 (fun c => c.2 (by rw [← h.2.1]; exact e2)), fun e2 => ?_⟩⟩
  rw [h.2.1] at e2
  obtain ⟨a, ha, ea, -⟩ := pk_mu e e2 (show n < 2 ^ 31 by omega)
  exact h1 a ha ea
theorem mn_begin {Q : MT} (h : RI v fi n m u) (hQ : ∀ v', RJ v' fi n m u → Q v' w fi fl) : P_X12_begin v w fi fl Q := by
  refine hQ _ ⟨((h.up (by decide) (by decide) (by decide)).up (by decide) (by decide) (by decide)).up (by decide) (by decide) (by decide), 0, ?_, Nat.zero_le _⟩
  rw [va_up_ne _ _ (by decide), va_up_ne _ _ (by decide), va_self]; rfl
theorem r_size {Q : Int64 → MT} (h : RI v fi n m u) (hK : Kx n m u Q) : P_X12_size v w fi fl p0 Q := by
  have h' : RI (va_up v 19 0) fi n m u := h.up (by decide) (by decide) (by decide)
  refine mn_isList h' (fun a ha ea => ⟨fun _ => mn_begin h' (fun v2 h2 => ?_), fun e => absurd e (by decide)⟩) (fun _ => ⟨fun e => absurd rfl e, fun _ => hK _ _ _ _ _ (h'.up (by decide) (by decide) (by decide))⟩)
  subst ea
  have key : ∀ (f j : Nat) (v : Nat → Int32) (w : Nat → Int64) (fi : Nat → Nat → Int32) (fl : Nat → Nat → Int64), 401 - j < f → j ≤ 400 → RJ v fi n m u → (∀ i, i < j → TH fi a i) → P_X12_size_26 Q f v w fi fl (nI a) (nI j) := by
    intro f
    induction f with
    | zero => intro j v w fi fl hf; exact absurd hf (Nat.not_lt_zero _)
    | succ f ih =>
      intro j v w fi fl hf hj h ht
      unfold P_X12_size_26 B_X12_size_26
      refine mn_reach h ha hj ht (fun r v' w' fi' fl' h' M' hr => ⟨fun _ => ⟨fun e1 => ?_, fun _ => mn_told h'.1 hK⟩, fun _ => hK _ _ _ _ _ h'.1⟩)
      obtain ⟨g1, g2⟩ := hr e1
      show P_X12_size_26 Q f v' w' fi' fl' (nI a) (nI j + 1)
      rw [nIs]
      refine ih (j + 1) _ _ _ _ (by omega) (by omega) h' (fun i hi => ?_)
      rcases Nat.lt_or_ge i j with e | e
      · exact M'.th (ht i e)
      · rw [show i = j by omega]; exact g2
  exact ⟨_, key _ 0 _ _ _ _ (Nat.lt_succ_self _) (by decide) h2 (fun i hi => absurd hi (Nat.not_lt_zero _))⟩
end MA
