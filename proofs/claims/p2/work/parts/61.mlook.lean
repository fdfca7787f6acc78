/-- what a look at cell (l, k) of a list of kind t may write there -/
def Bc (fi : Nat → Nat → Int32) (l k t : Nat) (v : Nat → Int32) : Prop := ∃ y x, v 27 + 1 = nI y ∧ v 28 = nI x ∧ x < 400 ∧ y ≤ l ∧ (0 < y → TH fi (y - 1) x) ∧ (v 26 = 1 → Dq fi l k t y x)
def KC (fi : Nat → Nat → Int32) (fl : Nat → Nat → Int64) (n l k t : Nat) (v : Nat → Int32) (Q : Int32 → MT) : Prop :=
  (∀ v' w', Sc v v' → Q (-2) v' w' fi fl) ∧ (∀ v' w' r, Sc v v' → Nd fi n (400 * l + k) r → Q r v' w' fi fl) ∧ (∀ v' w', Sc v v' → Bc fi l k t v' → Q (-1) v' w' fi fl)
section ML
variable {v v1 : Nat → Int32} {w : Nat → Int64} {fi : Nat → Nat → Int32} {fl : Nat → Nat → Int64} {n a b k l t j : Nat} {s : Int32} {Q : Int32 → MT}
theorem KC.to (h : KC fi fl n l k t v Q) (hs : Sc v v1) : KC fi fl n l k t v1 Q := ⟨fun v' w' e => h.1 v' w' (hs.tr e), fun v' w' r e => h.2.1 v' w' r (hs.tr e), fun v' w' e => h.2.2 v' w' (hs.tr e)⟩
theorem mn_as (hK : KC fi fl n l k t v Q) (h : s = 1 → Dq fi l k t 0 0) : P_X12_as v w fi fl s Q := by
  have e28 : va_up (va_up (va_up v 26 s) 27 (-1)) 28 0 28 = 0 := va_self
  have e27 : va_up (va_up (va_up v 26 s) 27 (-1)) 28 0 27 = -1 := by rw [va_up_ne _ _ (by decide), va_self]
  have e26 : va_up (va_up (va_up v 26 s) 27 (-1)) 28 0 26 = s := by rw [va_up_ne _ _ (by decide), va_up_ne _ _ (by decide), va_self]
  exact hK.2.2 _ _ (((Sc.rf.up (by decide)).up (by decide)).up (by decide)) ⟨0, 0, by rw [e27]; decide, e28, by decide, Nat.zero_le _, fun h => absurd h (Nat.not_lt_zero _), fun h1 => h (e26.symm.trans h1)⟩
theorem mn_shares (hK : KC fi fl n l k t v Q) (ha : a < l) (hj : j < 400) (ht : TH fi a j) (h : Dq fi l k t (a + 1) j) : P_X12_shares v w fi fl (nI a) (nI j) Q := by
  have e28 : va_up (va_up (va_up v 26 1) 27 (nI a)) 28 (nI j) 28 = nI j := va_self
  have e27 : va_up (va_up (va_up v 26 1) 27 (nI a)) 28 (nI j) 27 = nI a := by rw [va_up_ne _ _ (by decide), va_self]
  exact hK.2.2 _ _ (((Sc.rf.up (by decide)).up (by decide)).up (by decide)) ⟨a + 1, j, by rw [e27, nIs], e28, hj, ha, fun _ => by rw [Nat.add_sub_cancel]; exact ht, fun _ => h⟩
/-- what needCell may ask for -/
theorem nd_cell (hl : l < n) (ha : a < l) (hj : j < 400) (h0 : fi 7 (400 * a + j) = 0) (ht : ∀ i, i < j → TH fi a i) : Nd fi n (400 * l + k) (nI (2 * (400 * a + j))) := Or.inl ⟨a, j, by omega, hj, by omega, rfl, h0, ht⟩
theorem mn_like {kk : Nat} (I : IM fi n) (hl : l < n) (ha : a < l) (hkk : kk ≤ 1000) (hK : KC fi fl n l k t v Q)
    (h0 : s = 0 → kk < 400 → (∀ i, i ≤ kk → TH fi a i) → Dq fi l k t 0 0) (h1 : ¬ s = 0 → kk < 400 → (∀ i, i ≤ kk → TH fi a i) → Dq fi l k t (a + 1) kk) : P_X12_like v w fi fl (nI a) (nI kk) s Q := by
  have hn := I.1
  refine mn_needCell (by omega) hkk (fun v' hs => ⟨fun e => absurd e (by decide), fun _ => hK.1 _ _ hs⟩) (fun v' j hs h2 h3 h4 h5 => ⟨fun e => absurd e (nI_nneg (by omega)).1, fun _ => hK.2.1 _ _ _ hs (nd_cell hl ha h3 h4 h5)⟩) (fun v' hs h2 h3 e23 e24 => ⟨fun _ => ⟨fun hne => absurd e23 hne, fun _ => ⟨fun hz => ?_, fun hz => ?_⟩⟩, fun hne => absurd rfl hne⟩) (fun v' j hs h2 h3 h4 e23 hz hne e24 => ⟨fun _ => ⟨fun _ => mn_as (hK.to hs) (fun e => absurd e hne), fun e => absurd e hne⟩, fun h => absurd rfl h⟩)
  · exact mn_as (hK.to hs) (fun _ => h0 hz h2 h3)
  · exact mn_shares (hK.to hs) ha h2 (h3 _ (Nat.le_refl _)) (h1 hz h2 h3)
theorem mn_lookAtBoth (I : IM fi n) (hl : l < n) (hk : k < 400) (ha : a < l) (hb : b < l) (e2 : fi 2 l = nI a) (e3 : fi 3 l = nI b) (hK : KC fi fl n l k 4 v Q) : P_X12_lookAtBoth v w fi fl (nI a) (nI b) (nI k) Q := by
  have hn := I.1
  refine mn_needCell (by omega) (by omega) (fun v' hs => ⟨fun e => absurd e (by decide), fun _ => hK.1 _ _ hs⟩) (fun v' j hs h2 h3 h4 h5 => ⟨fun e => absurd e (nI_nneg (by omega)).1, fun _ => hK.2.1 _ _ _ hs (nd_cell hl ha h3 h4 h5)⟩) (fun v' hs h2 h3 e23 e24 => ⟨fun _ => ⟨fun hne => absurd e23 hne, fun _ => ?_⟩, fun hne => absurd rfl hne⟩) (fun v' j hs h2 h3 h4 e23 hz hne e24 => ⟨fun _ => ⟨fun _ => mn_as (hK.to hs) (fun e => absurd e hne), fun e => absurd e hne⟩, fun h => absurd rfl h⟩)
  refine mn_like I hl hb (by omega) (hK.to hs) (fun _ _ h6 => ⟨fun e => absurd e (by decide), fun e => absurd e (by decide), fun _ => ⟨a, b, e2, ha, e3, hb, h3 _ (Nat.le_refl _), h6 _ (Nat.le_refl _)⟩, fun e => absurd e (by decide), fun e => absurd e (by decide), fun e => absurd e (by decide), fun e => absurd e (by decide)⟩) (fun e => absurd rfl e)
/-- of the sharing kinds but BACK nothing more is asked -/
theorem dq_s {y x : Nat} (ht : 5 < t) (h13 : ¬ t = 13) (h16 : ¬ t = 16) (hy : 0 < y) : Dq fi l k t y x := ⟨fun e => by omega, fun e => by omega, fun e => by omega, fun e => by omega, fun e => absurd e h13, fun e => absurd e h16, fun _ _ => hy⟩
theorem mn_lookAtRound (I : IM fi n) (hl : l < n) (hk : k < 400) (ha : a < l) (hK : KC fi fl n l k 12 v Q) : P_X12_lookAtRound v w fi fl (nI a) (nI k) Q := by
  have hn := I.1
  refine mn_needCell (by omega) (by omega) (fun v' hs => ⟨fun e => absurd e (by decide), fun _ => hK.1 _ _ hs⟩) (fun v' j hs h2 h3 h4 h5 => ⟨fun e => absurd e (nI_nneg (by omega)).1, fun _ => hK.2.1 _ _ _ hs (nd_cell hl ha h3 h4 h5)⟩) (fun v' hs h2 h3 e23 e24 => ⟨fun _ => ⟨fun _ => ⟨fun hne => absurd e23 hne, fun _ => mn_shares (hK.to hs) ha h2 (h3 _ (Nat.le_refl _)) (dq_s (by decide) (by decide) (by decide) (Nat.succ_pos _))⟩, fun e => absurd (e23.symm.trans e) (by decide)⟩, fun hne => absurd rfl hne⟩) (fun v' j hs h2 h3 h4 e23 hz hne e24 => ⟨fun _ => ⟨fun _ => ⟨fun _ => mn_as (hK.to hs) (fun e => absurd e hne), fun e => absurd e hne⟩, fun _ => ?_⟩, fun h => absurd rfl h⟩)
  rw [e24]
  refine ⟨fun h0 => ⟨h0, ?_⟩, fun _ => mn_as (hK.to hs) (fun e => absurd e (by decide))⟩
  have hj : 0 < j := Nat.pos_of_ne_zero (fun e => h0 (by rw [e]; rfl))
  rw [pk_rem (by omega) hj (by omega)]
  have hm := Nat.mod_lt k hj
  exact mn_shares (hK.to hs) ha (by omega) (h4 _ hm) (dq_s (by decide) (by decide) (by decide) (Nat.succ_pos _))
theorem mn_lookAtJoin (I : IM fi n) (hl : l < n) (hk : k < 400) (ha : a < l) (hb : b < l) (hK : KC fi fl n l k 11 v Q) : P_X12_lookAtJoin v w fi fl (nI a) (nI b) (nI k) Q := by
  have hn := I.1
  refine mn_needCell (by omega) (by omega) (fun v' hs => ⟨fun e => absurd e (by decide), fun _ => hK.1 _ _ hs⟩) (fun v' j hs h2 h3 h4 h5 => ⟨fun e => absurd e (nI_nneg (by omega)).1, fun _ => hK.2.1 _ _ _ hs (nd_cell hl ha h3 h4 h5)⟩) (fun v' hs h2 h3 e23 e24 => ⟨fun _ => ⟨fun _ => ⟨fun hne => absurd e23 hne, fun _ => mn_shares (hK.to hs) ha h2 (h3 _ (Nat.le_refl _)) (dq_s (by decide) (by decide) (by decide) (Nat.succ_pos _))⟩, fun e => absurd (e23.symm.trans e) (by decide)⟩, fun hne => absurd rfl hne⟩) (fun v' j hs h2 h3 h4 e23 hz hne e24 => ⟨fun _ => ⟨fun _ => ⟨fun _ => mn_as (hK.to hs) (fun e => absurd e hne), fun e => absurd e hne⟩, fun _ => ?_⟩, fun h => absurd rfl h⟩)
  rw [e24, pk_sub h2]
  exact mn_like I hl hb (by omega) (hK.to hs) (fun e => absurd e (by decide)) (fun _ _ _ => dq_s (by decide) (by decide) (by decide) (Nat.succ_pos _))
theorem mn_meets {c : Int32} {x y : Int64} {P : Int32 → Prop} (h0 : P 0) (h1 : P 1) : P_X12_meets c x y P := by
  unfold P_X12_meets
  simp only [h0, h1, implies_true, and_true, true_and]
  first
    | trivial
    | (intros; rename_i h; exact fun e => h (cmp0.mpr e))
end ML
