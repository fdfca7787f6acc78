section H60
abbrev MT : Type := (Nat → Int32) → (Nat → Int64) → (Nat → Nat → Int32) → (Nat → Nat → Int64) → Prop
/-- only scratch fields changed -/
def Sc (v v' : Nat → Int32) : Prop := ∀ i, i < 20 → v' i = v i
theorem Sc.rf {v : Nat → Int32} : Sc v v := fun _ _ => rfl
theorem Sc.tr {v v1 v2 : Nat → Int32} (h : Sc v v1) (h2 : Sc v1 v2) : Sc v v2 := fun i hi => (h2 i hi).trans (h i hi)
theorem Sc.up {v v1 : Nat → Int32} {j : Nat} {x : Int32} (h : Sc v v1) (hj : 20 ≤ j) : Sc v (va_up v1 j x) := fun i hi => (va_up_ne _ _ (fun e => by omega)).trans (h i hi)
def TH (fi : Nat → Nat → Int32) (l k : Nat) : Prop := fi 7 (400 * l + k) = 1
/-- list l is of kind t, and refers to lists before it -/
def Kd (fi : Nat → Nat → Int32) (l t : Nat) : Prop := t ≤ 16 ∧ fi 1 l = nI t ∧ (2 < t → ∃ a, a < l ∧ fi 2 l = nI a) ∧ (t = 4 ∨ t = 11 → ∃ b, b < l ∧ fi 3 l = nI b) ∧ (t = 0 → ∃ a, a ≤ 100 ∧ fi 2 l = nI a) ∧ (t = 6 ∨ t = 7 → ∃ c, c ≤ 400 ∧ fi 4 l = nI c)
/-- what stands behind a cell that is THERE, with shareList y and shareCell x -/
def Dq (fi : Nat → Nat → Int32) (l k t y x : Nat) : Prop :=
  (t = 0 → ∃ a, fi 2 l = nI a ∧ a ≤ 100 ∧ k < a) ∧
  (t = 3 → ∃ a, fi 2 l = nI a ∧ a < l ∧ TH fi a k) ∧
  (t = 4 → ∃ a b, fi 2 l = nI a ∧ a < l ∧ fi 3 l = nI b ∧ b < l ∧ TH fi a k ∧ TH fi b k) ∧
  (t = 5 → 0 < k → ∃ a, fi 2 l = nI a ∧ a < l ∧ TH fi a (k - 1)) ∧
  (t = 13 → ∃ a e, fi 2 l = nI a ∧ a < l ∧ k < e ∧ e < 400 ∧ fi 7 (400 * a + e) = 2) ∧
  (t = 16 → ∃ a, fi 2 l = nI a ∧ a < l ∧ TH fi a x ∧ (k = 0 → TH fi a 0)) ∧
  (5 < t → ¬ t = 16 → 0 < y)
def Dp (fi : Nat → Nat → Int32) (l k t : Nat) : Prop := ∃ y x, fi 10 (400 * l + k) = nI y ∧ y ≤ 24 ∧ fi 11 (400 * l + k) = nI x ∧ x < 400 ∧ Dq fi l k t y x
def IM (fi : Nat → Nat → Int32) (n : Nat) : Prop :=
  n ≤ 24 ∧ (∀ l, l < n → ∃ t, Kd fi l t) ∧
  (∀ l k, l < 24 → k < 400 → ∃ y x, fi 10 (400 * l + k) = nI y ∧ fi 11 (400 * l + k) = nI x ∧ x < 400 ∧ y ≤ l ∧ (0 < y → TH fi (y - 1) x)) ∧
  (∀ l k, l < n → k < 400 → ¬ fi 7 (400 * l + k) = 0 → ∀ j, j < k → TH fi l j) ∧
  (∀ l k, l < 24 → k < 400 → n ≤ l → fi 7 (400 * l + k) = 0) ∧
  (∀ l k t, l < n → k < 400 → Kd fi l t → TH fi l k → Dp fi l k t)
/-- a goal of a place below lim -/
def Nd (fi : Nat → Nat → Int32) (n lim : Nat) (r : Int32) : Prop :=
  (∃ l k, l < n ∧ k < 400 ∧ 400 * l + k < lim ∧ r = nI (2 * (400 * l + k)) ∧ fi 7 (400 * l + k) = 0 ∧ ∀ i, i < k → TH fi l i) ∨
  (∃ l k, l < n ∧ k < 400 ∧ 400 * l + k < lim ∧ r = nI (2 * (400 * l + k) + 1) ∧ fi 8 (400 * l + k) = 0 ∧ TH fi l k ∧ fi 10 (400 * l + k) = 0)
theorem nI_nneg {n : Nat} (h : n < 2 ^ 31) : ¬ nI n = -1 ∧ ¬ nI n = -2 := ⟨fun e => by have := nI_pos (n := n) h; rw [e] at this; exact this (by decide), fun e => by have := nI_pos (n := n) h; rw [e] at this; exact this (by decide)⟩
theorem Nd.ne {fi : Nat → Nat → Int32} {n lim : Nat} {r : Int32} (hn : n ≤ 24) (h : Nd fi n lim r) : ¬ r = -1 ∧ ¬ r = -2 := by
  rcases h with ⟨l, k, h1, h2, h3, rfl, -⟩ | ⟨l, k, h1, h2, h3, rfl, -⟩ <;> exact nI_nneg (by omega)
theorem Nd.up {fi : Nat → Nat → Int32} {n lim lim' : Nat} {r : Int32} (h : Nd fi n lim r) (hl : lim ≤ lim') : Nd fi n lim' r := by
  rcases h with ⟨l, k, h1, h2, h3, h4⟩ | ⟨l, k, h1, h2, h3, h4⟩
  · exact Or.inl ⟨l, k, h1, h2, by omega, h4⟩
  · exact Or.inr ⟨l, k, h1, h2, by omega, h4⟩
section MN
variable {v : Nat → Int32} {w : Nat → Int64} {fi : Nat → Nat → Int32} {fl : Nat → Nat → Int64} {n a k l : Nat} {Q : Int32 → MT}
theorem pl {a j : Nat} : (400 : Int32) * nI a + nI j = nI (400 * a + j) := by
  rw [show (400 : Int32) = nI 400 from rfl, pk_mul, nI_add]
theorem dbl {p : Nat} : (2 : Int32) * nI p = nI (2 * p) := pk_mul 2 p
theorem mn_needCell (ha : a < 24) (hk : k ≤ 1000)
    (hO : ∀ v', Sc v v' → Q (-2) v' w fi fl)
    (hN : ∀ v' j, Sc v v' → j ≤ k → j < 400 → fi 7 (400 * a + j) = 0 → (∀ i, i < j → TH fi a i) → Q (nI (2 * (400 * a + j))) v' w fi fl)
    (hT : ∀ v', Sc v v' → k < 400 → (∀ i, i ≤ k → TH fi a i) → v' 23 = 1 → v' 24 = nI k → Q (-1) v' w fi fl)
    (hE : ∀ v' j, Sc v v' → j ≤ k → j < 400 → (∀ i, i < j → TH fi a i) → v' 23 = fi 7 (400 * a + j) → ¬ v' 23 = 0 → ¬ v' 23 = 1 → v' 24 = nI j → Q (-1) v' w fi fl) : P_X12_needCell v w fi fl (nI a) (nI k) Q := by
  have key : ∀ (f j : Nat) (v' : Nat → Int32), 401 - j < f → j ≤ k + 1 → j ≤ 400 → Sc v v' → (∀ i, i < j → TH fi a i) → (0 < j → v' 23 = 1 ∧ v' 24 = nI (j - 1)) → P_X12_needCell_2 Q f v' w fi fl (nI a) (nI k) (nI j) := by
    intro f
    induction f with
    | zero => intro j v' hn; exact absurd hn (Nat.not_lt_zero _)
    | succ f ih =>
      intro j v' hn hj h4 hs ht hv
      refine ⟨fun hlt => ?_, fun hge => ⟨fun hx => ?_, fun _ => hO _ hs⟩⟩
      · have : k < j := (nI_ltI (by omega) (by omega)).mp hlt
        obtain ⟨h1, h2⟩ := hv (by omega)
        exact hT _ hs (by omega) (fun i hi => ht i (by omega)) h1 (by rw [h2, show j - 1 = k by omega])
      · have hj4 : j < 400 := (nI_ltI (a := j) (b := 400) (by omega) (by omega)).mp hx
        have hjk : j ≤ k := by
          have : ¬ k < j := fun h => hge ((nI_ltI (by omega) (by omega)).mpr h)
          omega
        show vp_in (400 * nI a + nI j) 9600 ∧ _
        unfold P_X12_place
        rw [pl, nI_clamp (by omega)]
        have hs2 : Sc v (va_up (va_up v' 23 (fi 7 (400 * a + j))) 24 (nI j)) := (hs.up (by decide)).up (by decide)
        have e23 : va_up (va_up v' 23 (fi 7 (400 * a + j))) 24 (nI j) 23 = fi 7 (400 * a + j) := by rw [va_up_ne _ _ (by decide), va_self]
        have e24 : va_up (va_up v' 23 (fi 7 (400 * a + j))) 24 (nI j) 24 = nI j := va_self
        refine ⟨vp_in_nI (by omega) (by decide), fun hne => ⟨fun h1 => ?_, fun h1 => ?_⟩, fun h0 => ?_⟩
        · rw [nIs]
          refine ih (j + 1) _ (by omega) (by omega) (by omega) hs2 (fun i hi => ?_) (fun _ => ⟨e23.trans h1, by rw [e24, Nat.add_sub_cancel]⟩)
          rcases Nat.lt_or_ge i j with e | e
          · exact ht i e
          · rw [show i = j by omega]; exact h1
        · exact hE _ j hs2 hjk hj4 ht e23 (by rw [e23]; exact hne) (by rw [e23]; exact h1) e24
        · show Q (2 * nI (400 * a + j)) _ _ _ _
          rw [dbl]; exact hN _ j hs2 hjk hj4 h0 ht
  exact ⟨_, key _ 0 v (Nat.lt_succ_self _) (Nat.zero_le _) (Nat.zero_le _) Sc.rf (fun i hi => absurd hi (Nat.not_lt_zero _)) (fun h => absurd h (Nat.not_lt_zero _))⟩
theorem mn_ownPlace (I : IM fi n) (ha : a < 24) (hk : k < 400) (ht : TH fi a k)
    (hQ : ∀ l j, l ≤ a → j < 400 → 400 * l + j ≤ 400 * a + k → TH fi l j → fi 10 (400 * l + j) = 0 → Q (nI (400 * l + j)) v w fi fl) : P_X12_ownPlace v w fi fl (nI a) (nI k) Q := by
  have key : ∀ (f l j : Nat), l < f → l ≤ a → j < 400 → 400 * l + j ≤ 400 * a + k → TH fi l j → P_X12_ownPlace_6 Q f v w fi fl (nI (400 * l + j)) := by
    intro f
    induction f with
    | zero => intro l j hn; exact absurd hn (Nat.not_lt_zero _)
    | succ f ih =>
      intro l j hn hl hj hle ht
      have hv : vp_in (nI (400 * l + j)) 9600 := vp_in_nI (by omega) (by decide)
      show vp_in _ 9600 ∧ _
      rw [nI_clamp (by omega)]
      refine ⟨hv, fun h0 => hQ l j hl hj hle ht h0, fun hne => ⟨hv, hv, ?_⟩⟩
      obtain ⟨y, x, h1, h2, h3, h4, h5⟩ := I.2.2.1 l j (by omega) hj
      have hy : 0 < y := Nat.pos_of_ne_zero (fun e => hne (by rw [h1, e]; rfl))
      unfold P_X12_place
      rw [h1, h2, show (1 : Int32) = nI 1 from rfl, pk_sub hy, pl]
      exact ih (y - 1) x (by omega) (by omega) h3 (by omega) (h5 hy)
  unfold P_X12_ownPlace P_X12_place
  rw [pl]
  exact ⟨a + 1, key _ a k (Nat.lt_succ_self _) (Nat.le_refl _) hk (Nat.le_refl _) ht⟩
theorem mn_needItem {lim : Nat} (I : IM fi n) (ha : a < n) (hk : k < 400) (ht : TH fi a k) (hl : 400 * a + k < lim)
    (hN : ∀ v' w' r, Sc v v' → Nd fi n lim r → Q r v' w' fi fl)
    (hT : ∀ v' w', Sc v v' → (∀ i, 26 ≤ i → v' i = v i) → ¬ v' 23 = 0 → Q (-1) v' w' fi fl) : P_X12_needItem v w fi fl (nI a) (nI k) Q := by
  have hn := I.1
  refine mn_ownPlace I (by omega) hk ht (fun l j h1 h2 h3 h4 h5 => ?_)
  have hv : vp_in (nI (400 * l + j)) 9600 := vp_in_nI (by omega) (by decide)
  rw [nI_clamp (by omega)]
  refine ⟨hv, hv, fun hne => hT _ _ (Sc.rf.up (by decide)) (fun i hi => va_up_ne _ _ (by omega)) (by rw [va_self]; exact hne), fun h0 => ?_⟩
  rw [dbl, nIs]
  exact hN _ _ _ (Sc.rf.up (by decide)) (Or.inr ⟨l, j, by omega, h2, by omega, rfl, h0, h4, h5⟩)
end MN
end H60
section H61
/-- what a look at cell (l, k) of a list of kind t may write there -/
def Bc (fi : Nat → Nat → Int32) (l k t : Nat) (v : Nat → Int32) : Prop := ∃ y x, v 27 + 1 = nI y ∧ v 28 = nI x ∧ x < 400 ∧ y ≤ l ∧ (0 < y → TH fi (y - 1) x) ∧ (v 26 = 1 → Dq fi l k t y x)
def KC (fi : Nat → Nat → Int32) (fl : Nat → Nat → Int64) (n l k t : Nat) (v : Nat → Int32) (Q : Int32 → MT) : Prop :=
  (∀ v' w', Sc v v' → Q (-2) v' w' fi fl) ∧ (∀ v' w' r, Sc v v' → Nd fi n (400 * l + k) r → Q r v' w' fi fl) ∧ (∀ v' w', Sc v v' → Bc fi l k t v' → Q (-1) v' w' fi fl)
section ML
variable {v v1 : Nat → Int32} {w : Nat → Int64} {fi : Nat → Nat → Int32} {fl : Nat → Nat → Int64} {n a b k l t j : Nat} {s : Int32} {Q : Int32 → MT}
theorem KC.to (h : KC fi fl n l k t v Q) (hs : Sc v v1) : KC fi fl n l k t v1 Q := ⟨fun v' w' e => h.1 v' w' (hs.tr e), fun v' w' r e => h.2.1 v' w' r (hs.tr e), fun v' w' e => h.2.2 v' w' (hs.tr e)⟩
theorem mn_as (hK : KC fi fl n l k t v Q) (h : s = 1 → Dq fi l k t 0 0) : P_X12_as v w fi fl s Q := by
  have e28 : va_up (va_up (va_up v 26 s) 27 (-1)) 28 0 28 = 0 := va_self
  have e27 : va_up (va_up (va_up v 26 s) 27 (-1)) 28 0 27 = -1 := by rw [va_up_ne _ _ (by decide), va_self]
  have e26 : va_up (va_up (va_up v 26 s) 27 (-1)) 28 0 26 = s := by rw [va_up_ne _ _ (by decide), va_up_ne _ _ (by decide), va_self]
  exact hK.2.2 _ _ (((Sc.rf.up (by decide)).up (by decide)).up (by decide)) ⟨0, 0, by rw [e27]; decide, e28, by decide, Nat.zero_le _, fun h => absurd h (Nat.not_lt_zero _), fun h1 => h (e26.symm.trans h1)⟩
theorem mn_shares (hK : KC fi fl n l k t v Q) (ha : a < l) (hj : j < 400) (ht : TH fi a j) (h : Dq fi l k t (a + 1) j) : P_X12_shares v w fi fl (nI a) (nI j) Q := by
  have e28 : va_up (va_up (va_up v 26 1) 27 (nI a)) 28 (nI j) 28 = nI j := va_self
  have e27 : va_up (va_up (va_up v 26 1) 27 (nI a)) 28 (nI j) 27 = nI a := by rw [va_up_ne _ _ (by decide), va_self]
  exact hK.2.2 _ _ (((Sc.rf.up (by decide)).up (by decide)).up (by decide)) ⟨a + 1, j, by rw [e27, nIs], e28, hj, ha, fun _ => by rw [Nat.add_sub_cancel]; exact ht, fun _ => h⟩
/-- what needCell may ask for -/
theorem nd_cell (hl : l < n) (ha : a < l) (hj : j < 400) (h0 : fi 7 (400 * a + j) = 0) (ht : ∀ i, i < j → TH fi a i) : Nd fi n (400 * l + k) (nI (2 * (400 * a + j))) := Or.inl ⟨a, j, by omega, hj, by omega, rfl, h0, ht⟩
theorem mn_like {kk : Nat} (I : IM fi n) (hl : l < n) (ha : a < l) (hkk : kk ≤ 1000) (hK : KC fi fl n l k t v Q)
    (h0 : s = 0 → kk < 400 → (∀ i, i ≤ kk → TH fi a i) → Dq fi l k t 0 0) (h1 : ¬ s = 0 → kk < 400 → (∀ i, i ≤ kk → TH fi a i) → Dq fi l k t (a + 1) kk) : P_X12_like v w fi fl (nI a) (nI kk) s Q := by
  have hn := I.1
  refine mn_needCell (by omega) hkk (fun v' hs => ⟨fun e => absurd e (by decide), fun _ => hK.1 _ _ hs⟩) (fun v' j hs h2 h3 h4 h5 => ⟨fun e => absurd e (nI_nneg (by omega)).1, fun _ => hK.2.1 _ _ _ hs (nd_cell hl ha h3 h4 h5)⟩) (fun v' hs h2 h3 e23 e24 => ⟨fun _ => ⟨fun hne => absurd e23 hne, fun _ => ⟨fun hz => ?_, fun hz => ?_⟩⟩, fun hne => absurd rfl hne⟩) (fun v' j hs h2 h3 h4 e23 hz hne e24 => ⟨fun _ => ⟨fun _ => mn_as (hK.to hs) (fun e => absurd e hne), fun e => absurd e hne⟩, fun h => absurd rfl h⟩)
  · exact mn_as (hK.to hs) (fun _ => h0 hz h2 h3)
  · exact mn_shares (hK.to hs) ha h2 (h3 _ (Nat.le_refl _)) (h1 hz h2 h3)
theorem mn_lookAtBoth (I : IM fi n) (hl : l < n) (hk : k < 400) (ha : a < l) (hb : b < l) (e2 : fi 2 l = nI a) (e3 : fi 3 l = nI b) (hK : KC fi fl n l k 4 v Q) : P_X12_lookAtBoth v w fi fl (nI a) (nI b) (nI k) Q := by
  have hn := I.1
  refine mn_needCell (by omega) (by omega) (fun v' hs => ⟨fun e => absurd e (by decide), fun _ => hK.1 _ _ hs⟩) (fun v' j hs h2 h3 h4 h5 => ⟨fun e => absurd e (nI_nneg (by omega)).1, fun _ => hK.2.1 _ _ _ hs (nd_cell hl ha h3 h4 h5)⟩) (fun v' hs h2 h3 e23 e24 => ⟨fun _ => ⟨fun hne => absurd e23 hne, fun _ => ?_⟩, fun hne => absurd rfl hne⟩) (fun v' j hs h2 h3 h4 e23 hz hne e24 => ⟨fun _ => ⟨fun _ => mn_as (hK.to hs) (fun e => absurd e hne), fun e => absurd e hne⟩, fun h => absurd rfl h⟩)
  refine mn_like I hl hb (by omega) (hK.to hs) (fun _ _ h6 => ⟨fun e => absurd e (by decide), fun e => absurd e (by decide), fun _ => ⟨a, b, e2, ha, e3, hb, h3 _ (Nat.le_refl _), h6 _ (Nat.le_refl _)⟩, fun e => absurd e (by decide), fun e => absurd e (by decide), fun e => absurd e (by decide), fun e => absurd e (by decide)⟩) (fun e => absurd rfl e)
/-- of the sharing kinds but BACK nothing more is asked -/
theorem dq_s {y x : Nat} (ht : 5 < t) (h13 : ¬ t = 13) (h16 : ¬ t = 16) (hy : 0 < y) : Dq fi l k t y x := ⟨fun e => by omega, fun e => by omega, fun e => by omega, fun e => by omega, fun e => absurd e h13, fun e => absurd e h16, fun _ _ => hy⟩
theorem mn_lookAtRound (I : IM fi n) (hl : l < n) (hk : k < 400) (ha : a < l) (hK : KC fi fl n l k 12 v Q) : P_X12_lookAtRound v w fi fl (nI a) (nI k) Q := by
  have hn := I.1
  refine mn_needCell (by omega) (by omega) (fun v' hs => ⟨fun e => absurd e (by decide), fun _ => hK.1 _ _ hs⟩) (fun v' j hs h2 h3 h4 h5 => ⟨fun e => absurd e (nI_nneg (by omega)).1, fun _ => hK.2.1 _ _ _ hs (nd_cell hl ha h3 h4 h5)⟩) (fun v' hs h2 h3 e23 e24 => ⟨fun _ => ⟨fun _ => ⟨fun hne => absurd e23 hne, fun _ => mn_shares (hK.to hs) ha h2 (h3 _ (Nat.le_refl _)) (dq_s (by decide) (by decide) (by decide) (Nat.succ_pos _))⟩, fun e => absurd (e23.symm.trans e) (by decide)⟩, fun hne => absurd rfl hne⟩) (fun v' j hs h2 h3 h4 e23 hz hne e24 => ⟨fun _ => ⟨fun _ => ⟨fun _ => mn_as (hK.to hs) (fun e => absurd e hne), fun e => absurd e hne⟩, fun _ => ?_⟩, fun h => absurd rfl h⟩)
  rw [e24]
  refine ⟨fun h0 => ⟨h0, ?_⟩, fun _ => mn_as (hK.to hs) (fun e => absurd e (by decide))⟩
  have hj : 0 < j := Nat.pos_of_ne_zero (fun e => h0 (by rw [e]; rfl))
  rw [pk_rem (by omega) hj (by omega)]
  have hm := Nat.mod_lt k hj
  exact mn_shares (hK.to hs) ha (by omega) (h4 _ hm) (dq_s (by decide) (by decide) (by decide) (Nat.succ_pos _))
theorem mn_lookAtJoin (I : IM fi n) (hl : l < n) (hk : k < 400) (ha : a < l) (hb : b < l) (hK : KC fi fl n l k 11 v Q) : P_X12_lookAtJoin v w fi fl (nI a) (nI b) (nI k) Q := by
  have hn := I.1
  refine mn_needCell (by omega) (by omega) (fun v' hs => ⟨fun e => absurd e (by decide), fun _ => hK.1 _ _ hs⟩) (fun v' j hs h2 h3 h4 h5 => ⟨fun e => absurd e (nI_nneg (by omega)).1, fun _ => hK.2.1 _ _ _ hs (nd_cell hl ha h3 h4 h5)⟩) (fun v' hs h2 h3 e23 e24 => ⟨fun _ => ⟨fun _ => ⟨fun hne => absurd e23 hne, fun _ => mn_shares (hK.to hs) ha h2 (h3 _ (Nat.le_refl _)) (dq_s (by decide) (by decide) (by decide) (Nat.succ_pos _))⟩, fun e => absurd (e23.symm.trans e) (by decide)⟩, fun hne => absurd rfl hne⟩) (fun v' j hs h2 h3 h4 e23 hz hne e24 => ⟨fun _ => ⟨fun _ => ⟨fun _ => mn_as (hK.to hs) (fun e => absurd e hne), fun e => absurd e hne⟩, fun _ => ?_⟩, fun h => absurd rfl h⟩)
  rw [e24, pk_sub h2]
  exact mn_like I hl hb (by omega) (hK.to hs) (fun e => absurd e (by decide)) (fun _ _ _ => dq_s (by decide) (by decide) (by decide) (Nat.succ_pos _))
theorem mn_meets {c : Int32} {x y : Int64} {P : Int32 → Prop} (h0 : P 0) (h1 : P 1) : P_X12_meets c x y P := by
  unfold P_X12_meets
  simp only [h0, h1, implies_true, and_true, true_and]
  first
    | trivial
    | (intros; rename_i h; exact fun e => h (cmp0.mpr e))
end ML
end H61
section H62
section MO
variable {v v1 : Nat → Int32} {w : Nat → Int64} {fi : Nat → Nat → Int32} {fl : Nat → Nat → Int64} {n a b k l t j : Nat} {s : Int32} {y : Int64} {Q : Int32 → MT}
theorem mn_isRight (I : IM fi n) (hl : l < 24) (hk : k ≤ 400) (ht : ∀ i, i < k → TH fi l i) (h0 : Q 0 v w fi fl) (h1 : Q 1 v w fi fl) : P_X12_isRight v w fi fl (nI l) (nI k) y Q := by
  have hv : vp_in (nI l) 24 := vp_in_nI hl (by decide)
  have key : ∀ (f i : Nat) (x : Int32), k - i < f → i ≤ k → (x = 0 ∨ x = 1) → P_X12_isRight_70 Q f v w fi fl (nI l) (nI k) y x (nI i) := by
    intro f
    induction f with
    | zero => intro i x hn; exact absurd hn (Nat.not_lt_zero _)
    | succ f ih =>
      intro i x hn hi hx
      refine ⟨fun _ => ?_, fun hlt => ?_⟩
      · rcases hx with rfl | rfl
        · exact ⟨nar0, h0⟩
        · exact ⟨nar1, h1⟩
      · have hik : i < k := by
          rcases Nat.lt_or_ge i k with e | e
          · exact e
          · exact absurd (nI_le e (by omega)) hlt
        refine mn_ownPlace I hl (by omega) (ht i hik) (fun l' j' g1 g2 g3 g4 g5 => ⟨vp_in_nI (by omega) (by decide), fun _ => ?_, fun _ => ?_⟩)
        · show P_X12_isRight_70 Q f v w fi fl (nI l) (nI k) y (x &&& 0) (nI i + 1)
          rw [nIs]
          exact ih (i + 1) _ (by omega) (by omega) (Or.inl (by rcases hx with rfl | rfl <;> decide))
        · show P_X12_isRight_70 Q f v w fi fl (nI l) (nI k) y (x &&& 1) (nI i + 1)
          rw [nIs]
          exact ih (i + 1) _ (by omega) (by omega) (by rcases hx with rfl | rfl <;> decide)
  refine ⟨hv, fun _ => ⟨hv, fun _ => ⟨_, key _ 0 _ (Nat.lt_succ_self _) (Nat.zero_le _) (Or.inr rfl)⟩, fun _ => ⟨hv, hv, mn_meets ⟨fun h => absurd rfl h, fun _ => h1⟩ ⟨fun _ => h0, fun h => absurd h (by decide)⟩⟩⟩, fun _ => ⟨hv, hv, mn_meets ⟨nar0, h0⟩ ⟨nar1, h1⟩⟩⟩
theorem mn_lookAtDuring (I : IM fi n) (hl : l < n) (hk : k < 400) (ha : a < l) (hK : KC fi fl n l k 9 v Q) : P_X12_lookAtDuring v w fi fl (nI l) (nI a) (nI k) Q := by
  have hn := I.1
  have hv : vp_in (nI l) 24 := vp_in_nI (by omega) (by decide)
  refine mn_needCell (by omega) (by omega) (fun v' hs => ⟨fun e => absurd e (by decide), fun _ => hK.1 _ _ hs⟩) (fun v' j hs h2 h3 h4 h5 => ⟨fun e => absurd e (nI_nneg (by omega)).1, fun _ => hK.2.1 _ _ _ hs (nd_cell hl ha h3 h4 h5)⟩) (fun v' hs h2 h3 e23 e24 => ⟨fun _ => ⟨fun _ => ?_, fun hne => absurd e23 hne⟩, fun hne => absurd rfl hne⟩) (fun v' j hs h2 h3 h4 e23 hz hne e24 => ⟨fun _ => ⟨fun e => absurd e hne, fun _ => mn_as (hK.to hs) (fun e => absurd e hne)⟩, fun h => absurd rfl h⟩)
  refine mn_needItem (lim := 400 * l + k) I (by omega) hk (h3 _ (Nat.le_refl _)) (by omega) (fun v2 w2 r hs2 hN => ⟨fun e => absurd e (hN.ne hn).1, fun _ => (hK.to hs).2.1 _ _ _ hs2 hN⟩) (fun v2 w2 hs2 _ hz => ⟨fun _ => ⟨fun _ => ⟨hv, hv, mn_meets ⟨fun _ => ?_, fun h => absurd rfl h⟩ ⟨fun h => absurd h (by decide), fun _ => ?_⟩⟩, fun hne => ?_⟩, fun h => absurd rfl h⟩)
  · exact mn_as ((hK.to hs).to hs2) (fun e => absurd e (by decide))
  · exact mn_shares ((hK.to hs).to hs2) ha hk (h3 _ (Nat.le_refl _)) (dq_s (by decide) (by decide) (by decide) (Nat.succ_pos _))
  · exact mn_as ((hK.to hs).to hs2) (fun e => absurd e hne)
theorem mn_lookOn (I : IM fi n) (hl : l < n) (hk : k < 400) (ha : a < l) (ht : ∀ i, i < k → TH fi l i) (h5 : 5 < t) (h13 : ¬ t = 13) (h16 : ¬ t = 16) (hK : KC fi fl n l k t v Q) : P_X12_lookOn v w fi fl (nI l) (nI a) (nI k) Q := by
  have hn := I.1
  have key : ∀ (f i : Nat) (v : Nat → Int32) (w : Nat → Int64), 401 - i < f → i ≤ 400 → KC fi fl n l k t v Q → P_X12_lookOn_24 Q f v w fi fl (nI l) (nI a) (nI k) (nI i) := by
    intro f
    induction f with
    | zero => intro i v w hn; exact absurd hn (Nat.not_lt_zero _)
    | succ f ih =>
      intro i v w hf hi hK
      refine mn_needCell (by omega) (by omega) (fun v' hs => ⟨fun e => absurd e (by decide), fun _ => hK.1 _ _ hs⟩) (fun v' j hs h2 h3 h4 h5 => ⟨fun e => absurd e (nI_nneg (by omega)).1, fun _ => hK.2.1 _ _ _ hs (nd_cell hl ha h3 h4 h5)⟩) (fun v' hs h2 h3 e23 e24 => ⟨fun _ => ⟨fun _ => ?_, fun hne => absurd e23 hne⟩, fun hne => absurd rfl hne⟩) (fun v' j hs h2 h3 h4 e23 hz hne e24 => ⟨fun _ => ⟨fun e => absurd e hne, fun _ => mn_as (hK.to hs) (fun e => absurd e hne)⟩, fun h => absurd rfl h⟩)
      refine mn_needItem (lim := 400 * l + k) I (by omega) h2 (h3 _ (Nat.le_refl _)) (by omega) (fun v2 w2 r hs2 hN => ⟨fun e => absurd e (hN.ne hn).1, fun _ => (hK.to hs).2.1 _ _ _ hs2 hN⟩) (fun v2 w2 hs2 _ hz => ⟨fun _ => ⟨fun _ => mn_isRight I (by omega) (by omega) ht ⟨fun _ => ?_, fun h => absurd rfl h⟩ ⟨fun h => absurd h (by decide), fun _ => ?_⟩, fun hne => ?_⟩, fun h => absurd rfl h⟩)
      · show P_X12_lookOn_24 Q f v2 w2 fi fl (nI l) (nI a) (nI k) (nI i + 1)
        rw [nIs]
        exact ih (i + 1) _ _ (by omega) (by omega) ((hK.to hs).to hs2)
      · exact mn_shares ((hK.to hs).to hs2) ha h2 (h3 _ (Nat.le_refl _)) (dq_s h5 h13 h16 (Nat.succ_pos _))
      · exact mn_as ((hK.to hs).to hs2) (fun e => absurd e hne)
  refine ⟨fun hne => ?_, fun _ => ⟨_, key _ 0 _ _ (Nat.lt_succ_self _) (by decide) hK⟩⟩
  have hp : 0 < k := Nat.pos_of_ne_zero (fun e => hne (by rw [e]; rfl))
  unfold P_X12_place
  rw [show (1 : Int32) = nI 1 from rfl, pk_sub hp, pl]
  obtain ⟨y, x, h1, h2, h3, h4, h6⟩ := I.2.2.1 l (k - 1) (by omega) (by omega)
  refine ⟨vp_in_nI (by omega) (by decide), fun z hz => ?_⟩
  rw [nI_clamp (by omega), h2, nI_add] at hz
  subst hz
  exact ⟨_, key _ (x + 1) _ _ (Nat.lt_succ_self _) (by omega) hK⟩
theorem mn_lookAtAll (I : IM fi n) (hl : l < n) (hk : k < 400) (ha : a < l) (e2 : fi 2 l = nI a) (hkd : Kd fi l t) (ht : ∀ i, i < k → TH fi l i) (h5 : t = 13 ∨ t = 14) (hK : KC fi fl n l k t v Q) : P_X12_lookAtAll v w fi fl (nI l) (nI a) (nI k) Q := by
  have hn := I.1
  have hv : vp_in (nI l) 24 := vp_in_nI (by omega) (by decide)
  refine mn_needCell (k := 400) (by omega) (by omega) (fun v' hs => ⟨fun e => absurd e (by decide), fun _ => hK.1 _ _ hs⟩) (fun v' j hs h2 h3 h4 h5 => ⟨fun e => absurd e (nI_nneg (by omega)).1, fun _ => hK.2.1 _ _ _ hs (nd_cell hl ha h3 h4 h5)⟩) (fun v' hs h2 h3 e23 e24 => absurd h2 (by decide)) (fun v' j hs h2 h3 h4 e23 hz hne e24 => ⟨fun _ => ⟨fun h2e => ?_, fun _ => mn_as (hK.to hs) (fun e => absurd e hne)⟩, fun h => absurd rfl h⟩)
  have ej : fi 7 (400 * a + j) = 2 := e23.symm.trans h2e
  have hK' := hK.to hs
  rw [e24]
  refine ⟨fun hkj => ⟨hv, fun h13 => ?_, fun h13 => ?_⟩, fun _ => mn_as hK' (fun e => absurd e (by decide))⟩
  · rw [nI_clamp (by omega), hkd.2.1] at h13
    have t14 : t = 14 := by
      rcases h5 with e | e
      · exact absurd (by rw [e]; rfl) h13
      · exact e
    subst t14
    have k131 : ∀ (f i : Nat) (v : Nat → Int32) (w : Nat → Int64), j - i < f → i ≤ j → KC fi fl n l k 14 v Q → P_X12_lookAtAll_131 Q f v w fi fl (nI a) (nI k) (nI j) (nI i) := by
      intro f
      induction f with
      | zero => intro i v w hf; exact absurd hf (Nat.not_lt_zero _)
      | succ f ih =>
        intro i v w hf hi hK
        refine ⟨fun _ => mn_as hK (fun e => absurd e (by decide)), fun hlt => ?_⟩
        have hij : i < j := by
          rcases Nat.lt_or_ge i j with e | e
          · exact e
          · exact absurd (nI_le e (by omega)) hlt
        refine mn_ownPlace I (by omega) (by omega) (h4 i hij) (fun l' j' g1 g2 g3 g4 g5 => ⟨vp_in_nI (by omega) (by decide), ?_⟩)
        have k158 : ∀ (g m : Nat) (x9 : Int32) (y : Int64), j - m < g → m ≤ j → P_X12_lookAtAll_158 (P_X12_lookAtAll_131 Q f) Q g v w fi fl (nI a) (nI k) (nI j) (nI i) y x9 (nI m) := by
          intro g
          induction g with
          | zero => intro m x9 y hg; exact absurd hg (Nat.not_lt_zero _)
          | succ g ih2 =>
            intro m x9 y hg hm
            have go : ∀ x9 : Int32, m < j → P_X12_lookAtAll_158 (P_X12_lookAtAll_131 Q f) Q g v w fi fl (nI a) (nI k) (nI j) (nI i) y x9 (nI m + 1) := fun x9 hm2 => by rw [nIs]; exact ih2 (m + 1) _ _ (by omega) (by omega)
            refine ⟨fun _ => ⟨fun _ => ?_, fun _ => ?_⟩, fun hlt2 => ?_⟩
            · show P_X12_lookAtAll_131 Q f v w fi fl (nI a) (nI k) (nI j) (nI i + 1)
              rw [nIs]; exact ih (i + 1) _ _ (by omega) (by omega) hK
            · exact mn_shares hK ha (by omega) (h4 i hij) (dq_s (by decide) (by decide) (by decide) (Nat.succ_pos _))
            · have hmj : m < j := by
                rcases Nat.lt_or_ge m j with e | e
                · exact e
                · exact absurd (nI_le e (by omega)) hlt2
              exact mn_ownPlace I (by omega) (by omega) (h4 m hmj) (fun l' j' g1 g2 g3 g4 g5 => ⟨vp_in_nI (by omega) (by decide), fun _ => go _ hmj, fun _ => ⟨fun _ => go _ hmj, fun _ => ⟨fun _ => go _ hmj, fun _ => go _ hmj⟩⟩⟩)
        exact ⟨_, k158 _ 0 _ _ (Nat.lt_succ_self _) (Nat.zero_le _)⟩
    have k80 : ∀ (f i : Nat) (v : Nat → Int32) (w : Nat → Int64), j - i < f → i ≤ j → KC fi fl n l k 14 v Q → P_X12_lookAtAll_80 Q f v w fi fl (nI a) (nI k) (nI j) (nI i) := by
      intro f
      induction f with
      | zero => intro i v w hf; exact absurd hf (Nat.not_lt_zero _)
      | succ f ih =>
        intro i v w hf hi hK
        refine ⟨fun _ => ⟨_, k131 _ 0 _ _ (Nat.lt_succ_self _) (Nat.zero_le _) hK⟩, fun hlt => ?_⟩
        have hij : i < j := by
          rcases Nat.lt_or_ge i j with e | e
          · exact e
          · exact absurd (nI_le e (by omega)) hlt
        refine mn_needItem (lim := 400 * l + k) I (by omega) (by omega) (h4 i hij) (by omega) (fun v2 w2 r hs2 hN => ⟨fun e => absurd e (hN.ne hn).1, fun _ => hK.2.1 _ _ _ hs2 hN⟩) (fun v2 w2 hs2 _ hz => ⟨fun _ => ⟨fun _ => ?_, fun hne => mn_as (hK.to hs2) (fun e => absurd e hne)⟩, fun h => absurd rfl h⟩)
        show P_X12_lookAtAll_80 Q f v2 w2 fi fl (nI a) (nI k) (nI j) (nI i + 1)
        rw [nIs]
        exact ih (i + 1) _ _ (by omega) (by omega) (hK.to hs2)
    exact ⟨_, k80 _ 0 _ _ (Nat.lt_succ_self _) (Nat.zero_le _) hK'⟩
  · rw [nI_clamp (by omega), hkd.2.1] at h13
    have t13 : t = 13 := nI_inj (by have := hkd.1; omega) (by decide) h13
    subst t13
    have hkj2 : k ≠ j := fun e => hkj (by rw [e])
    have hlt : k < j := by
      rcases Nat.lt_or_ge k j with e | e
      · exact e
      · obtain ⟨y, x, -, -, -, -, D⟩ := I.2.2.2.2.2 l (k - 1) 13 hl (by omega) hkd (ht (k - 1) (by omega))
        obtain ⟨a', e', q1, q2, q3, q4, q5⟩ := D.2.2.2.2.1 rfl
        have haa : a' = a := nI_inj (by omega) (by omega) (q1.symm.trans e2)
        subst haa
        have := I.2.2.2.1 a' e' (by omega) q4 (by rw [q5]; decide) j (by omega)
        rw [TH, ej] at this
        exact absurd this (by decide)
    rw [show (1 : Int32) = nI 1 from rfl, pk_sub (by omega), pk_sub (by omega)]
    exact mn_shares hK' ha (by omega) (h4 _ (by omega)) ⟨fun e => absurd e (by decide), fun e => absurd e (by decide), fun e => absurd e (by decide), fun e => absurd e (by decide), fun _ => ⟨a, j, e2, ha, hlt, h3, ej⟩, fun e => absurd e (by decide), fun _ _ => Nat.succ_pos _⟩
end MO
end H62
section H63
/-- what a look at an item may tell -/
def KI (fi : Nat → Nat → Int32) (fl : Nat → Nat → Int64) (n lim : Nat) (v : Nat → Int32) (Q : Int32 → MT) : Prop :=
  (∀ v' w', Sc v v' → Q (-2) v' w' fi fl) ∧ (∀ v' w' r, Sc v v' → Nd fi n lim r → Q r v' w' fi fl) ∧ (∀ v' w', Sc v v' → Q (-1) v' w' fi fl)
/-- what a look at a run may tell -/
def Rn (fi : Nat → Nat → Int32) (a : Nat) (v : Nat → Int32) : Prop := v 27 = -1 ∧ ∃ x, v 28 = nI x ∧ x < 400 ∧ (v 26 = 1 → TH fi a x)
def KR (fi : Nat → Nat → Int32) (fl : Nat → Nat → Int64) (n lim a : Nat) (v : Nat → Int32) (Q : Int32 → MT) : Prop :=
  (∀ v' w', Sc v v' → Q (-2) v' w' fi fl) ∧ (∀ v' w' r, Sc v v' → Nd fi n lim r → Q r v' w' fi fl) ∧ (∀ v' w', Sc v v' → Rn fi a v' → Q (-1) v' w' fi fl)
section MI
variable {v v1 : Nat → Int32} {w : Nat → Int64} {fi : Nat → Nat → Int32} {fl : Nat → Nat → Int64} {n a b k l t j lim : Nat} {s p0 p3 p4 : Int32} {y y2 : Int64} {Q : Int32 → MT}
theorem KI.to (h : KI fi fl n lim v Q) (hs : Sc v v1) : KI fi fl n lim v1 Q := ⟨fun v' w' e => h.1 v' w' (hs.tr e), fun v' w' r e => h.2.1 v' w' r (hs.tr e), fun v' w' e => h.2.2 v' w' (hs.tr e)⟩
theorem KR.to (h : KR fi fl n lim a v Q) (hs : Sc v v1) : KR fi fl n lim a v1 Q := ⟨fun v' w' e => h.1 v' w' (hs.tr e), fun v' w' r e => h.2.1 v' w' r (hs.tr e), fun v' w' e => h.2.2 v' w' (hs.tr e)⟩
theorem mn_floor {P : Int64 → Prop} (h : ¬ y2 = 0) (hP : ∀ r, P r) : P_X12_floor y y2 P := ⟨h, h, fun _ => hP _, fun _ => ⟨fun _ => ⟨fun _ => hP _, fun _ => hP _⟩, fun _ => ⟨fun _ => hP _, fun _ => hP _⟩⟩⟩
theorem mn_op (hQ : ∀ r w', Q r v w' fi fl) : P_X12_op v w fi fl p0 y y2 Q := by
  have hz : ¬ lg_cmp y2 0 = 0 → ¬ y2 = 0 := fun h e => h (cmp0.mpr e)
  refine ⟨fun _ => ⟨fun h => mn_floor (hz h) (fun _ => hQ _ _), fun _ => hQ _ _⟩, fun _ => ⟨fun _ => ⟨fun _ => hQ _ _, fun _ => ⟨fun _ => hQ _ _, fun _ => ⟨fun _ => hQ _ _, fun _ => ⟨fun _ => ⟨fun _ => hQ _ _, fun _ => hQ _ _⟩, fun _ => ⟨fun _ => ⟨fun _ => hQ _ _, fun _ => hQ _ _⟩, fun _ => ⟨fun _ => hQ _ _, fun _ => hQ _ _⟩⟩⟩⟩⟩⟩, fun _ => ⟨fun h => mn_floor (hz h) (fun _ => hQ _ _), fun _ => hQ _ _⟩⟩⟩
theorem mn_ofItems {i : Nat} (I : IM fi n) (ha : a < n) (hi : i < 400) (ht : TH fi a i) (hl : 400 * a + i < lim) (hb : p3 = -1 ∨ ∃ b j, p3 = nI b ∧ p4 = nI j ∧ b < n ∧ j < 400 ∧ TH fi b j ∧ 400 * b + j < lim) (hK : KI fi fl n lim v Q) : P_X12_ofItems v w fi fl p0 (nI a) (nI i) p3 p4 y Q := by
  have hn := I.1
  have fin : ∀ {v1 : Nat → Int32} {w1 : Nat → Int64} {r : Int32}, Sc v v1 → Q (-1) (va_up v1 26 r) w1 fi fl := fun hs => hK.2.2 _ _ (hs.up (by decide))
  refine ⟨fun _ => ⟨fun _ => mn_op (fun r w' => fin Sc.rf), fun h3 => ?_⟩, fun _ => mn_needItem I ha hi ht hl (fun v2 w2 r hs2 hN => ⟨fun e => absurd e (hN.ne hn).1, fun _ => hK.2.1 _ _ _ hs2 hN⟩) (fun v2 w2 hs2 _ hz => ⟨fun _ => ⟨fun _ => ⟨fun _ => mn_op (fun r w' => fin (hs2.up (by decide))), fun _ => ⟨fun _ => mn_op (fun r w' => fin (hs2.up (by decide))), fun h3 => ?_⟩⟩, fun _ => fin hs2⟩, fun h => absurd rfl h⟩)⟩
  · rcases hb with e | ⟨b, j, rfl, rfl, b1, b2, b3, b4⟩
    · exact absurd e h3
    · exact mn_needItem I b1 b2 b3 b4 (fun v2 w2 r hs2 hN => ⟨fun e => absurd e (hN.ne hn).1, fun _ => hK.2.1 _ _ _ hs2 hN⟩) (fun v2 w2 hs2 _ hz => ⟨fun _ => ⟨fun _ => mn_op (fun r w' => fin (hs2.up (by decide))), fun _ => fin hs2⟩, fun h => absurd rfl h⟩)
  · rcases hb with e | ⟨b, j, rfl, rfl, b1, b2, b3, b4⟩
    · exact absurd e h3
    · have hs3 : Sc v (va_up v2 26 (v2 23)) := hs2.up (by decide)
      exact mn_needItem I b1 b2 b3 b4 (fun v2 w2 r hs2 hN => ⟨fun e => absurd e (hN.ne hn).1, fun _ => hK.2.1 _ _ _ (hs3.tr hs2) hN⟩) (fun v2 w2 hs2 _ hz => ⟨fun _ => ⟨fun _ => mn_op (fun r w' => fin ((hs3.tr hs2).up (by decide))), fun _ => fin (hs3.tr hs2)⟩, fun h => absurd rfl h⟩)
theorem mn_asR (hK : KR fi fl n lim a v Q) (h : ¬ s = 1) : P_X12_as v w fi fl s Q := by
  have e28 : va_up (va_up (va_up v 26 s) 27 (-1)) 28 0 28 = 0 := va_self
  have e27 : va_up (va_up (va_up v 26 s) 27 (-1)) 28 0 27 = -1 := by rw [va_up_ne _ _ (by decide), va_self]
  have e26 : va_up (va_up (va_up v 26 s) 27 (-1)) 28 0 26 = s := by rw [va_up_ne _ _ (by decide), va_up_ne _ _ (by decide), va_self]
  exact hK.2.2 _ _ (((Sc.rf.up (by decide)).up (by decide)).up (by decide)) ⟨e27, 0, e28, by decide, fun e => absurd (e26.symm.trans e) h⟩
theorem mn_lookAtRun (I : IM fi n) (hl : l < n) (hk : k < 400) (ha : a < l) (e2 : fi 2 l = nI a) (hlim : 400 * l ≤ lim) {x : Nat} (e11 : fi 11 (400 * l + k) = nI x) (hx : x < 400) (htx : TH fi a x) (ht0 : k = 0 → TH fi a 0) (hK : KR fi fl n lim a v Q) : P_X12_lookAtRun v w fi fl (nI l) (nI k) Q := by
  have hn := I.1
  have hv : vp_in (nI l) 24 := vp_in_nI (by omega) (by decide)
  have key : ∀ (f i : Nat) (x4 : Int32) (x6 : Int64) (v : Nat → Int32) (w : Nat → Int64), 401 - i < f → i ≤ 400 → KR fi fl n lim a v Q → P_X12_lookAtRun_74 Q f v w fi fl (nI a) x4 x6 (nI i) := by
    intro f
    induction f with
    | zero => intro i x4 x6 v w hf; exact absurd hf (Nat.not_lt_zero _)
    | succ f ih =>
      intro i x4 x6 v w hf hi hK
      refine mn_needCell (by omega) (by omega) (fun v' hs => ⟨fun e => absurd e (by decide), fun _ => hK.1 _ _ hs⟩) (fun v' j hs h2 h3 h4 h5 => ⟨fun e => absurd e (nI_nneg (by omega)).1, fun _ => hK.2.1 _ _ _ hs (Or.inl ⟨a, j, by omega, h3, by omega, rfl, h4, h5⟩)⟩) (fun v' hs h2 h3 e23 e24 => ⟨fun _ => ⟨fun _ => ?_, fun hne => absurd e23 hne⟩, fun hne => absurd rfl hne⟩) (fun v' j hs h2 h3 h4 e23 hz hne e24 => ⟨fun _ => ⟨fun e => absurd e hne, fun _ => mn_asR (hK.to (hs.up (by decide))) hne⟩, fun h => absurd rfl h⟩)
      have hs' : Sc v (va_up v' 29 (nI i - x4)) := hs.up (by decide)
      refine mn_needItem (lim := lim) I (by omega) h2 (h3 _ (Nat.le_refl _)) (by omega) (fun v2 w2 r hs2 hN => ⟨fun e => absurd e (hN.ne hn).1, fun _ => hK.2.1 _ _ _ (hs'.tr hs2) hN⟩) (fun v2 w2 hs2 _ hz => ⟨fun _ => ⟨fun _ => ⟨fun _ => ?_, fun _ => ?_⟩, fun hne => mn_asR (hK.to (hs'.tr hs2)) hne⟩, fun h => absurd rfl h⟩)
      · show P_X12_lookAtRun_74 Q f v2 w2 fi fl (nI a) x4 x6 (nI i + 1)
        rw [nIs]
        exact ih (i + 1) _ _ _ _ (by omega) (by omega) (hK.to (hs'.tr hs2))
      · refine hK.2.2 _ _ ((hs'.tr hs2).tr ((((Sc.rf.up (by decide)).up (by decide)).up (by decide)).up (by decide))) ⟨?_, i, va_self, h2, fun _ => h3 _ (Nat.le_refl _)⟩
        rw [va_up_ne _ _ (by decide), va_up_ne _ _ (by decide), va_self]
  refine ⟨hv, fun hne => ?_, fun he => ?_⟩
  · unfold P_X12_place
    rw [pl]
    dsimp only
    rw [nI_clamp (n := l) (by omega), nI_clamp (n := 400 * l + k) (by omega), e2, e11]
    refine ⟨vp_in_nI (by omega) (by decide), mn_needItem (lim := lim) I (by omega) hx htx (by omega) (fun v2 w2 r hs2 hN => ⟨fun e => absurd e (hN.ne hn).1, fun _ => hK.2.1 _ _ _ hs2 hN⟩) (fun v2 w2 hs2 _ hz => ⟨fun _ => ⟨fun _ => ?_, fun hne => mn_asR (hK.to hs2) hne⟩, fun h => absurd rfl h⟩)⟩
    intro z hz
    rw [nIs] at hz
    subst hz
    exact ⟨_, key _ (x + 1) _ _ _ _ (Nat.lt_succ_self _) (by omega) (hK.to hs2)⟩
  · have hk0 : k = 0 := nI_inj (by omega) (by decide) (he.trans nI_0.symm)
    rw [nI_clamp (by omega), e2]
    refine mn_needItem (k := 0) (lim := lim) I (by omega) (by decide) (ht0 hk0) (by omega) (fun v2 w2 r hs2 hN => ⟨fun e => absurd e (hN.ne hn).1, fun _ => hK.2.1 _ _ _ hs2 hN⟩) (fun v2 w2 hs2 _ hz => ⟨fun _ => ⟨fun _ => ⟨_, key _ 1 _ _ _ _ (Nat.lt_succ_self _) (by decide) (hK.to hs2)⟩, fun hne => mn_asR (hK.to hs2) hne⟩, fun h => absurd rfl h⟩)
end MI
end H63
section H64
section MC
variable {v v1 : Nat → Int32} {w : Nat → Int64} {fi : Nat → Nat → Int32} {fl : Nat → Nat → Int64} {n a b k l t j lim : Nat} {s p0 p3 p4 : Int32} {y y2 : Int64} {Q : Int32 → MT}
/-- of kinds that ask nothing -/
theorem dq_o {y x : Nat} (ht : t = 1 ∨ t = 2) : Dq fi l k t y x := ⟨fun e => by omega, fun e => by omega, fun e => by omega, fun e => by omega, fun e => by omega, fun e => by omega, fun e => by omega⟩
theorem kd_ne {u : Nat} (hu : u < 20) (h : Kd fi l t) (hne : ¬ t = u) : ¬ fi 1 l = nI u := fun e => hne (nI_inj (by have := h.1; omega) (by omega) (h.2.1.symm.trans e))
theorem kd_eq {u : Nat} (hu : u < 20) (h : Kd fi l t) (e : fi 1 l = nI u) : t = u := nI_inj (by have := h.1; omega) (by omega) (h.2.1.symm.trans e)
theorem mn_lookAtCell (I : IM fi n) (hl : l < n) (hk : k < 400) (hkd : Kd fi l t) (ht : ∀ i, i < k → TH fi l i) (hK : KC fi fl n l k t v Q) : P_X12_lookAtCell v w fi fl (nI l) (nI k) Q := by
  have hn := I.1
  have hv : vp_in (nI l) 24 := vp_in_nI (by omega) (by decide)
  obtain ⟨t16, e1, c2, c3, c0, c4⟩ := id hkd
  have main : vp_in (nI l) 24 ∧ vp_in (nI l) 24 ∧ True := ⟨hv, hv, trivial⟩
  have key : ∀ (f i : Nat), k - i < f → i ≤ k → P_X12_lookAtCell_12 Q f v w fi fl (nI l) (nI k) (nI i) := by
    intro f
    induction f with
    | zero => intro i hf; exact absurd hf (Nat.not_lt_zero _)
    | succ f ih =>
      intro i hf hi
      unfold P_X12_lookAtCell_12 B_X12_lookAtCell_12
      rw [nI_clamp (n := l) (by omega)]
      refine ⟨fun _ => ⟨hv, hv, fun h => ?_, fun _ => ⟨fun h => ?_, fun _ => ⟨fun h => ?_, fun _ => ⟨fun h => ?_, fun _ => ⟨fun h => ?_, fun _ => ⟨fun h => ?_, fun _ => ⟨fun h => ?_, fun _ => ⟨fun h => ?_, fun _ => ⟨fun h => ?_, fun _ => ⟨fun h => ?_, fun _ => ⟨fun h => ?_, fun _ => ⟨fun h => ?_, fun _ => ⟨fun h => ?_, fun _ => ⟨fun h => ?_, fun _ => ⟨fun h => ?_, fun _ => ⟨fun h => ?_, fun _ => ⟨fun h => ?_, fun h16 => ?_⟩⟩⟩⟩⟩⟩⟩⟩⟩⟩⟩⟩⟩⟩⟩⟩⟩, fun hlt => ?_⟩
      · obtain rfl : t = 0 := kd_eq (by decide) hkd h
        obtain ⟨a, a1, a2⟩ := c0 rfl
        rw [a2]
        refine ⟨fun _ => ⟨hv, fun _ => mn_as hK (fun e => absurd e (by decide)), fun _ => mn_as hK (fun e => absurd e (by decide))⟩, fun h => mn_as hK (fun _ => ⟨fun _ => ⟨a, a2, a1, ?_⟩, fun e => absurd e (by decide), fun e => absurd e (by decide), fun e => absurd e (by decide), fun e => absurd e (by decide), fun e => absurd e (by decide), fun e => absurd e (by decide)⟩)⟩
        rcases Nat.lt_or_ge k a with e | e
        · exact e
        · exact absurd (nI_le e (by omega)) h
      · obtain rfl : t = 1 := kd_eq (by decide) hkd h
        exact mn_as hK (fun _ => dq_o (Or.inl rfl))
      · obtain rfl : t = 2 := kd_eq (by decide) hkd h
        exact mn_as hK (fun _ => dq_o (Or.inr rfl))
      · obtain rfl : t = 3 := kd_eq (by decide) hkd h
        obtain ⟨a, a1, a2⟩ := c2 (by decide)
        rw [a2]
        exact mn_like I hl a1 (by omega) hK (fun _ _ h6 => ⟨fun e => absurd e (by decide), fun _ => ⟨a, a2, a1, h6 _ (Nat.le_refl _)⟩, fun e => absurd e (by decide), fun e => absurd e (by decide), fun e => absurd e (by decide), fun e => absurd e (by decide), fun e => absurd e (by decide)⟩) (fun e => absurd rfl e)
      · obtain rfl : t = 4 := kd_eq (by decide) hkd h
        obtain ⟨a, a1, a2⟩ := c2 (by decide)
        obtain ⟨b, b1, b2⟩ := c3 (by decide)
        rw [a2, b2]
        exact ⟨hv, mn_lookAtBoth I hl hk a1 b1 a2 b2 hK⟩
      · obtain rfl : t = 5 := kd_eq (by decide) hkd h
        obtain ⟨a, a1, a2⟩ := c2 (by decide)
        rw [a2]
        refine ⟨fun hne => ?_, fun he => mn_as hK (fun _ => ⟨fun e => absurd e (by decide), fun e => absurd e (by decide), fun e => absurd e (by decide), fun _ hp => absurd (nI_inj (by omega) (by decide) (he.trans nI_0.symm)) (by omega), fun e => absurd e (by decide), fun e => absurd e (by decide), fun e => absurd e (by decide)⟩)⟩
        have hp : 0 < k := Nat.pos_of_ne_zero (fun e => hne (by rw [e]; rfl))
        rw [show (1 : Int32) = nI 1 from rfl, pk_sub hp]
        exact mn_like I hl a1 (by omega) hK (fun _ _ h6 => ⟨fun e => absurd e (by decide), fun e => absurd e (by decide), fun e => absurd e (by decide), fun _ _ => ⟨a, a2, a1, h6 _ (Nat.le_refl _)⟩, fun e => absurd e (by decide), fun e => absurd e (by decide), fun e => absurd e (by decide)⟩) (fun e => absurd rfl e)
      · obtain rfl : t = 6 := kd_eq (by decide) hkd h
        obtain ⟨a, a1, a2⟩ := c2 (by decide)
        rw [a2]
        exact ⟨hv, fun _ => mn_like I hl a1 (by omega) hK (fun e => absurd e (by decide)) (fun _ _ _ => dq_s (by decide) (by decide) (by decide) (Nat.succ_pos _)), fun _ => mn_as hK (fun e => absurd e (by decide))⟩
      · obtain rfl : t = 7 := kd_eq (by decide) hkd h
        obtain ⟨a, a1, a2⟩ := c2 (by decide)
        obtain ⟨c, b1, b2⟩ := c4 (by decide)
        rw [a2, b2, nI_add]
        exact ⟨hv, mn_like I hl a1 (by omega) hK (fun e => absurd e (by decide)) (fun _ _ _ => dq_s (by decide) (by decide) (by decide) (Nat.succ_pos _))⟩
      · obtain rfl : t = 8 := kd_eq (by decide) hkd h
        obtain ⟨a, a1, a2⟩ := c2 (by decide)
        rw [a2]
        exact mn_lookOn I hl hk a1 ht (by decide) (by decide) (by decide) hK
      · obtain rfl : t = 9 := kd_eq (by decide) hkd h
        obtain ⟨a, a1, a2⟩ := c2 (by decide)
        rw [a2]
        exact mn_lookAtDuring I hl hk a1 hK
      · obtain rfl : t = 10 := kd_eq (by decide) hkd h
        obtain ⟨a, a1, a2⟩ := c2 (by decide)
        rw [a2]
        refine ⟨fun hle => ?_, fun hgt => ?_⟩
        · have hk0 : k = 0 := by
            rcases Nat.eq_zero_or_pos k with e | e
            · exact e
            · exact absurd hle (nI_nle e (by omega))
          subst hk0
          exact mn_lookOn (k := 0) I hl hk a1 ht (by decide) (by decide) (by decide) hK
        · show vp_in ((400 : Int32) * nI l + nI 0) 9600 ∧ P_X12_like v w fi fl (nI a) (fi 11 ((400 : Int32) * nI l + nI 0).toNatClampNeg + nI k) 1 Q
          rw [pl, nI_clamp (n := 400 * l + 0) (by omega)]
          obtain ⟨y, x, h1, h2, h3, h4, h6⟩ := I.2.2.1 l 0 (by omega) (by decide)
          rw [h2, nI_add]
          exact ⟨vp_in_nI (by omega) (by decide), mn_like I hl a1 (by omega) hK (fun e => absurd e (by decide)) (fun _ _ _ => dq_s (by decide) (by decide) (by decide) (Nat.succ_pos _))⟩
      · obtain rfl : t = 11 := kd_eq (by decide) hkd h
        obtain ⟨a, a1, a2⟩ := c2 (by decide)
        obtain ⟨b, b1, b2⟩ := c3 (by decide)
        rw [a2, b2]
        exact ⟨hv, mn_lookAtJoin I hl hk a1 b1 hK⟩
      · obtain rfl : t = 12 := kd_eq (by decide) hkd h
        obtain ⟨a, a1, a2⟩ := c2 (by decide)
        rw [a2]
        exact mn_lookAtRound I hl hk a1 hK
      · obtain rfl : t = 13 := kd_eq (by decide) hkd h
        obtain ⟨a, a1, a2⟩ := c2 (by decide)
        rw [a2]
        exact mn_lookAtAll I hl hk a1 a2 hkd ht (Or.inl rfl) hK
      · obtain rfl : t = 14 := kd_eq (by decide) hkd h
        obtain ⟨a, a1, a2⟩ := c2 (by decide)
        rw [a2]
        exact mn_lookAtAll I hl hk a1 a2 hkd ht (Or.inr rfl) hK
      · obtain rfl : t = 15 := kd_eq (by decide) hkd h
        obtain ⟨a, a1, a2⟩ := c2 (by decide)
        rw [a2]
        exact mn_lookOn I hl hk a1 ht (by decide) (by decide) (by decide) hK
      · obtain rfl : t = 16 := kd_eq (by decide) hkd h
        obtain ⟨a, a1, a2⟩ := c2 (by decide)
        rw [a2]
        refine ⟨fun hne => ?_, fun he => ?_⟩
        · have hp : 0 < k := Nat.pos_of_ne_zero (fun e => hne (by rw [e]; rfl))
          rw [show (1 : Int32) = nI 1 from rfl, pk_sub hp]
          obtain ⟨y, x, q1, q2, q3, q4, D⟩ := I.2.2.2.2.2 l (k - 1) 16 hl (by omega) hkd (ht (k - 1) (by omega))
          obtain ⟨a', r1, r2, r3, r4⟩ := D.2.2.2.2.2.1 rfl
          have haa : a' = a := nI_inj (by omega) (by omega) (r1.symm.trans a2)
          subst haa
          refine mn_lookAtRun (lim := 400 * l + k) I hl (by omega) a1 a2 (by omega) q3 q4 r3 r4 ⟨hK.1, hK.2.1, fun v' w' hs hR => hK.2.2 v' w' hs ?_⟩
          obtain ⟨g1, x', g2, g3, g4⟩ := hR
          exact ⟨0, x', by rw [g1]; decide, g2, g3, Nat.zero_le _, fun h => absurd h (Nat.not_lt_zero _), fun h1 => ⟨fun e => absurd e (by decide), fun e => absurd e (by decide), fun e => absurd e (by decide), fun e => absurd e (by decide), fun e => absurd e (by decide), fun _ => ⟨a', a2, a1, g4 h1, fun e => by omega⟩, fun _ e => absurd rfl e⟩⟩
        · have hk0 : k = 0 := nI_inj (by omega) (by decide) (he.trans nI_0.symm)
          subst hk0
          exact mn_like (kk := 0) I hl a1 (by omega) hK (fun _ _ h6 => ⟨fun e => absurd e (by decide), fun e => absurd e (by decide), fun e => absurd e (by decide), fun e => absurd e (by decide), fun e => absurd e (by decide), fun _ => ⟨a, a2, a1, h6 0 (Nat.le_refl _), fun _ => h6 0 (Nat.le_refl _)⟩, fun _ e => absurd rfl e⟩) (fun e => absurd rfl e)
      · exfalso
        rename_i g0 g1 g2 g3 g4 g5 g6 g7 g8 g9 g10 g11 g12 g13 g14 g15
        have hh : t = 0 ∨ t = 1 ∨ t = 2 ∨ t = 3 ∨ t = 4 ∨ t = 5 ∨ t = 6 ∨ t = 7 ∨ t = 8 ∨ t = 9 ∨ t = 10 ∨ t = 11 ∨ t = 12 ∨ t = 13 ∨ t = 14 ∨ t = 15 ∨ t = 16 := by omega
        rw [e1] at g0 g1 g2 g3 g4 g5 g6 g7 g8 g9 g10 g11 g12 g13 g14 g15 h16
        rcases hh with rfl | rfl | rfl | rfl | rfl | rfl | rfl | rfl | rfl | rfl | rfl | rfl | rfl | rfl | rfl | rfl | rfl
        · exact g0 rfl
        · exact g1 rfl
        · exact g2 rfl
        · exact g3 rfl
        · exact g4 rfl
        · exact g5 rfl
        · exact g6 rfl
        · exact g7 rfl
        · exact g8 rfl
        · exact g9 rfl
        · exact g10 rfl
        · exact g11 rfl
        · exact g12 rfl
        · exact g13 rfl
        · exact g14 rfl
        · exact g15 rfl
        · exact h16 rfl
      · have hik : i < k := by
          rcases Nat.lt_or_ge i k with e | e
          · exact e
          · exact absurd (nI_le e (by omega)) hlt
        unfold P_X12_place
        rw [pl]
        dsimp only
        rw [nI_clamp (n := 400 * l + i) (by omega)]
        refine ⟨vp_in_nI (by omega) (by decide), fun _ => ?_, fun h0 => ?_⟩
        · rw [nIs]; exact ih (i + 1) (by omega) (by omega)
        · have := ht i hik
          rw [TH, h0] at this
          exact absurd this (by decide)
  exact ⟨fun _ => ⟨_, key _ 0 (Nat.lt_succ_self _) (Nat.zero_le _)⟩, fun h => absurd (nI_lt (a := k) (b := 400) hk (by decide)) h⟩
end MC
end H64
section H65
section MS
variable {v v1 : Nat → Int32} {w : Nat → Int64} {fi fi' : Nat → Nat → Int32} {fl : Nat → Nat → Int64} {n a b k l t j lim : Nat} {s p0 p3 p4 : Int32} {y y2 : Int64} {Q : Int32 → MT}
theorem pl100 {a j : Nat} : (100 : Int32) * nI a + nI j = nI (100 * a + j) := by
  rw [show (100 : Int32) = nI 100 from rfl, pk_mul, nI_add]
theorem mn_lookAtItem (I : IM fi n) (hl : l < n) (hk : k < 400) (hth : TH fi l k) (h10 : fi 10 (400 * l + k) = 0) (hK : KI fi fl n (400 * l + k) v Q) : P_X12_lookAtItem v w fi fl (nI l) (nI k) Q := by
  have hn := I.1
  have hv : vp_in (nI l) 24 := vp_in_nI (by omega) (by decide)
  obtain ⟨t, hkd⟩ := I.2.1 l hl
  obtain ⟨yy, x, q1, q2, q3, q4, D⟩ := I.2.2.2.2.2 l k t hl hk hkd hth
  have hy0 : yy = 0 := nI_inj (by omega) (by decide) (q1.symm.trans (h10.trans nI_0.symm))
  have before : ∀ i, i < k → TH fi l i := I.2.2.2.1 l k hl hk (by rw [TH] at hth; rw [hth]; decide)
  have is1 : ∀ {w' : Nat → Int64} {z : Int64}, P_X12_is v w' fi fl z Q := fun {w' z} => hK.2.2 _ _ (Sc.rf.up (by decide))
  unfold P_X12_lookAtItem
  rw [nI_clamp (n := l) (by omega)]
  refine ⟨hv, hv, fun h => ?_, fun g0 => ⟨fun h => ?_, fun g1 => ⟨fun h => ?_, fun g2 => ⟨fun h => ?_, fun g3 => ⟨fun h => ?_, fun g4 => ⟨fun h => ?_, fun g5 => ?_⟩⟩⟩⟩⟩⟩
  · obtain rfl : t = 0 := kd_eq (by decide) hkd h
    obtain ⟨a, a1, a2, a3⟩ := D.1 rfl
    rw [pl100, nI_clamp (n := 100 * l + k) (by omega)]
    have hv2 : vp_in (nI (100 * l + k)) 2400 := vp_in_nI (by omega) (by decide)
    exact ⟨hv2, hv2, hK.2.2 _ _ (Sc.rf.up (by decide))⟩
  · exact ⟨hv, hv, fun z _ => hK.2.2 _ _ (Sc.rf.up (by decide))⟩
  · refine ⟨fun hne => ⟨hv, hv, ?_⟩, fun _ => ⟨hv, is1⟩⟩
    have hp : 0 < k := Nat.pos_of_ne_zero (fun e => hne (by rw [e]; rfl))
    rw [show (1 : Int32) = nI 1 from rfl, pk_sub hp]
    exact mn_ofItems I hl (by omega) (before _ (by omega)) (by omega) (Or.inl rfl) hK
  · obtain rfl : t = 3 := kd_eq (by decide) hkd h
    obtain ⟨a, a1, a2, a3⟩ := D.2.1 rfl
    rw [a1]
    exact ⟨hv, hv, mn_ofItems I (by omega) hk a3 (by omega) (Or.inl rfl) hK⟩
  · obtain rfl : t = 4 := kd_eq (by decide) hkd h
    obtain ⟨a, b, a1, a2, b1, b2, a3, b3⟩ := D.2.2.1 rfl
    rw [a1, b1]
    exact ⟨hv, hv, mn_ofItems I (by omega) hk a3 (by omega) (Or.inr ⟨b, k, rfl, rfl, by omega, hk, b3, by omega⟩) hK⟩
  · obtain rfl : t = 5 := kd_eq (by decide) hkd h
    refine ⟨fun hne => ⟨hv, ?_⟩, fun _ => ⟨hv, is1⟩⟩
    have hp : 0 < k := Nat.pos_of_ne_zero (fun e => hne (by rw [e]; rfl))
    obtain ⟨a, a1, a2, a3⟩ := D.2.2.2.1 rfl hp
    rw [a1, show (1 : Int32) = nI 1 from rfl, pk_sub hp]
    exact mn_ofItems I hl (by omega) (before _ (by omega)) (by omega) (Or.inr ⟨a, k - 1, rfl, rfl, by omega, by omega, a3, by omega⟩) hK
  · have ht5 : ¬ t ≤ 5 := fun h => by
      rw [hkd.2.1] at g0 g1 g2 g3 g4 g5
      rcases (show t = 0 ∨ t = 1 ∨ t = 2 ∨ t = 3 ∨ t = 4 ∨ t = 5 by omega) with rfl | rfl | rfl | rfl | rfl | rfl
      · exact g0 rfl
      · exact g1 rfl
      · exact g2 rfl
      · exact g3 rfl
      · exact g4 rfl
      · exact g5 rfl
    have ht16 : t = 16 := by
      by_cases e : t = 16
      · exact e
      · have := D.2.2.2.2.2.2 (by omega) e
        omega
    subst ht16
    obtain ⟨a, a1, a2, a3, a4⟩ := D.2.2.2.2.2.1 rfl
    exact mn_lookAtRun (lim := 400 * l + k) I hl hk a2 a1 (by omega) q3 q4 a3 a4 ⟨fun v' w' hs => ⟨fun e => absurd e (by decide), fun _ => hK.1 _ _ hs⟩, fun v' w' r hs hN => ⟨fun e => absurd e (hN.ne hn).1, fun _ => hK.2.1 _ _ _ hs hN⟩, fun v' w' hs _ => ⟨fun _ => ⟨fun _ => hK.2.2 _ _ hs, fun _ => hK.2.2 _ _ (hs.up (by decide))⟩, fun h => absurd rfl h⟩⟩
/-- what a meeting leaves as it was -/
def Mo (fi fi' : Nat → Nat → Int32) : Prop := fi' 1 = fi 1 ∧ fi' 2 = fi 2 ∧ fi' 3 = fi 3 ∧ fi' 4 = fi 4 ∧ ∀ q, ¬ fi 7 q = 0 → fi' 7 q = fi 7 q
theorem Mo.rf : Mo fi fi := ⟨rfl, rfl, rfl, rfl, fun _ _ => rfl⟩
theorem Mo.tr {fi2 : Nat → Nat → Int32} (h : Mo fi fi') (h2 : Mo fi' fi2) : Mo fi fi2 := ⟨h2.1.trans h.1, h2.2.1.trans h.2.1, h2.2.2.1.trans h.2.2.1, h2.2.2.2.1.trans h.2.2.2.1, fun q hq => (h2.2.2.2.2 q (by rw [h.2.2.2.2 q hq]; exact hq)).trans (h.2.2.2.2 q hq)⟩
theorem Mo.th (h : Mo fi fi') (ht : TH fi l k) : TH fi' l k := by
  unfold TH at *
  rw [h.2.2.2.2 _ (by rw [ht]; decide)]; exact ht
theorem Mo.dq {y x : Nat} (h : Mo fi fi') (hd : Dq fi l k t y x) : Dq fi' l k t y x := by
  obtain ⟨d0, d3, d4, d5, d13, d16, ds⟩ := hd
  unfold Dq
  rw [h.2.1, h.2.2.1]
  refine ⟨d0, fun e => ?_, fun e => ?_, fun e hp => ?_, fun e => ?_, fun e => ?_, ds⟩
  · obtain ⟨a, a1, a2, a3⟩ := d3 e
    exact ⟨a, a1, a2, h.th a3⟩
  · obtain ⟨a, b, a1, a2, a3, a4, a5, a6⟩ := d4 e
    exact ⟨a, b, a1, a2, a3, a4, h.th a5, h.th a6⟩
  · obtain ⟨a, a1, a2, a3⟩ := d5 e hp
    exact ⟨a, a1, a2, h.th a3⟩
  · obtain ⟨a, e', a1, a2, a3, a4, a5⟩ := d13 e
    exact ⟨a, e', a1, a2, a3, a4, by rw [h.2.2.2.2 _ (by rw [a5]; decide)]; exact a5⟩
  · obtain ⟨a, a1, a2, a3, a4⟩ := d16 e
    exact ⟨a, a1, a2, h.th a3, fun e0 => h.th (a4 e0)⟩
theorem Mo.kd (h : Mo fi fi') : Kd fi' l t ↔ Kd fi l t := by
  unfold Kd
  rw [h.1, h.2.1, h.2.2.1, h.2.2.2.1]
/-- a cell is met -/
theorem IM.set {y x : Nat} (I : IM fi n) (hl : l < n) (hk : k < 400) (h0 : fi 7 (400 * l + k) = 0) (hb : ∀ i, i < k → TH fi l i) (hkd : Kd fi l t) (hx : x < 400) (hy : y ≤ l) (hyt : 0 < y → TH fi (y - 1) x) (hd : s = 1 → Dq fi l k t y x)
    (e1 : fi' 1 = fi 1) (e2 : fi' 2 = fi 2) (e3 : fi' 3 = fi 3) (e4 : fi' 4 = fi 4) (e7 : fi' 7 = upd (fi 7) (400 * l + k) s) (e10 : fi' 10 = upd (fi 10) (400 * l + k) (nI y)) (e11 : fi' 11 = upd (fi 11) (400 * l + k) (nI x)) : IM fi' n ∧ Mo fi fi' := by
  have M : Mo fi fi' := ⟨e1, e2, e3, e4, fun q hq => by rw [e7]; exact pk_un (fun e => hq (by rw [e]; exact h0))⟩
  have hn := I.1
  obtain ⟨i0, i1, i2, i3, i4, i5⟩ := I
  have ne : ∀ {l' k' : Nat}, k' < 400 → ¬ (l' = l ∧ k' = k) → 400 * l' + k' ≠ 400 * l + k := fun h h2 e => h2 ⟨by omega, by omega⟩
  refine ⟨⟨i0, fun l' h => ?_, fun l' k' h1 h2 => ?_, fun l' k' h1 h2 h3 j hj => ?_, fun l' k' h1 h2 h3 => ?_, fun l' k' t' h1 h2 h3 h4 => ?_⟩, M⟩
  · obtain ⟨t', h'⟩ := i1 l' h
    exact ⟨t', M.kd.mpr h'⟩
  · by_cases e : l' = l ∧ k' = k
    · obtain ⟨rfl, rfl⟩ := e
      exact ⟨y, x, by rw [e10]; exact pk_us, by rw [e11]; exact pk_us, hx, hy, fun hp => M.th (hyt hp)⟩
    · obtain ⟨y', x', g1, g2, g3, g4, g5⟩ := i2 l' k' h1 h2
      exact ⟨y', x', by rw [e10, pk_un (ne h2 e)]; exact g1, by rw [e11, pk_un (ne h2 e)]; exact g2, g3, g4, fun hp => M.th (g5 hp)⟩
  · by_cases e : l' = l ∧ k' = k
    · obtain ⟨rfl, rfl⟩ := e
      exact M.th (hb j hj)
    · rw [e7, pk_un (ne h2 e)] at h3
      exact M.th (i3 l' k' h1 h2 h3 j hj)
  · rw [e7, pk_un (ne h2 (fun e => by omega))]; exact i4 l' k' h1 h2 h3
  · have h3' := M.kd.mp h3
    by_cases e : l' = l ∧ k' = k
    · obtain ⟨rfl, rfl⟩ := e
      have htt : t' = t := nI_inj (by have := h3'.1; omega) (by have := hkd.1; omega) (h3'.2.1.symm.trans hkd.2.1)
      subst htt
      rw [TH, e7, pk_us] at h4
      exact ⟨y, x, by rw [e10]; exact pk_us, by omega, by rw [e11]; exact pk_us, hx, M.dq (hd h4)⟩
    · have h4' : TH fi l' k' := by
        rw [TH, e7, pk_un (ne h2 e)] at h4; exact h4
      obtain ⟨y', x', g1, g2, g3, g4, g5⟩ := i5 l' k' t' h1 h2 h3' h4'
      exact ⟨y', x', by rw [e10, pk_un (ne h2 e)]; exact g1, g2, by rw [e11, pk_un (ne h2 e)]; exact g3, g4, M.dq g5⟩
theorem IM.cg (I : IM fi n) (e1 : fi' 1 = fi 1) (e2 : fi' 2 = fi 2) (e3 : fi' 3 = fi 3) (e4 : fi' 4 = fi 4) (e7 : fi' 7 = fi 7) (e10 : fi' 10 = fi 10) (e11 : fi' 11 = fi 11) : IM fi' n := by
  unfold IM Kd Dp Dq TH at *
  rw [e1, e2, e3, e4, e7, e10, e11]
  exact I
end MS
end H65
section H66
def plc (r : Int32) : Nat := r.toNatClampNeg / 2
/-- the pile: unmet goals, each of a lower place than the one below it -/
def PO (fi : Nat → Nat → Int32) (n h : Nat) : Prop := (∀ i, i < h → Nd fi n 9600 (fi 31 i)) ∧ (∀ i j, i < j → j < h → plc (fi 31 j) < plc (fi 31 i))
abbrev KMe (n u : Nat) (v : Nat → Int32) (fi : Nat → Nat → Int32) (Q : Int32 → MT) : Prop := ∀ r v' w' fi' fl' s, IM fi' n → Mo fi fi' → v' 0 = v 0 → v' 12 = v 12 → v' 15 = nI u → v' 16 = nI s → s ≤ u → Q r v' w' fi' fl'
def tm (fi : Nat → Nat → Int32) (h : Nat) : Nat := if h = 0 then 0 else plc (fi 31 (h - 1)) + 1
section MM
variable {v v1 : Nat → Int32} {w : Nat → Int64} {fi fi' : Nat → Nat → Int32} {fl : Nat → Nat → Int64} {n a b k l t j lim p h u s0 : Nat} {r s : Int32} {Q : Int32 → MT}
theorem Nd.plt (hn : n ≤ 24) (h : Nd fi n lim r) : plc r < lim ∧ plc r < 9600 := by
  rcases h with ⟨l, k, h1, h2, h3, rfl, -⟩ | ⟨l, k, h1, h2, h3, rfl, -⟩
  · unfold plc; rw [nI_clamp (by omega)]; omega
  · unfold plc; rw [nI_clamp (by omega)]; omega
theorem Nd.all (hn : n ≤ 24) (h : Nd fi n lim r) : Nd fi n 9600 r := by
  rcases h with ⟨l, k, h1, h2, h3, h4⟩ | ⟨l, k, h1, h2, h3, h4⟩
  · exact Or.inl ⟨l, k, h1, h2, by omega, h4⟩
  · exact Or.inr ⟨l, k, h1, h2, by omega, h4⟩
theorem Nd.keep (hn : n ≤ 24) (h : Nd fi n lim r) (hp : plc r ≠ p) (h7 : ∀ q, q ≠ p → fi' 7 q = fi 7 q) (h8 : ∀ q, q ≠ p → fi' 8 q = fi 8 q) (h10 : ∀ q, q ≠ p → fi' 10 q = fi 10 q) (hM : ∀ q, fi 7 q = 1 → fi' 7 q = 1) : Nd fi' n lim r := by
  rcases h with ⟨l, k, h1, h2, h3, rfl, h4, h5⟩ | ⟨l, k, h1, h2, h3, rfl, h4, h5, h6⟩
  · have hq : 400 * l + k ≠ p := fun e => hp (by unfold plc; rw [nI_clamp (by omega)]; omega)
    exact Or.inl ⟨l, k, h1, h2, h3, rfl, by rw [h7 _ hq]; exact h4, fun i hi => hM _ (h5 i hi)⟩
  · have hq : 400 * l + k ≠ p := fun e => hp (by unfold plc; rw [nI_clamp (by omega)]; omega)
    exact Or.inr ⟨l, k, h1, h2, h3, rfl, by rw [h8 _ hq]; exact h4, hM _ h5, by rw [h10 _ hq]; exact h6⟩
theorem Nd.cg (h : Nd fi n lim r) (e7 : fi' 7 = fi 7) (e8 : fi' 8 = fi 8) (e10 : fi' 10 = fi 10) : Nd fi' n lim r := by
  unfold Nd TH at *
  rw [e7, e8, e10]; exact h
theorem PO.high (hn : n ≤ 24) (P : PO fi n h) : h ≤ 9600 := by
  have key : ∀ i, i < h → plc (fi 31 i) + i < 9600 := by
    intro i
    induction i with
    | zero => intro hi; have := (Nd.plt hn (P.1 0 hi)).2; omega
    | succ i ih => intro hi; have := ih (by omega); have := P.2 i (i + 1) (by omega) hi; omega
  rcases Nat.eq_zero_or_pos h with e | e
  · omega
  · have := key (h - 1) (by omega)
    omega
theorem tm_le (hn : n ≤ 24) (P : PO fi n h) : tm fi h ≤ 9600 := by
  unfold tm
  split
  · omega
  · have := (Nd.plt hn (P.1 (h - 1) (by omega))).2
    omega
/-- a need is pushed -/
theorem PO.push (hn : n ≤ 24) (P : PO fi n (h + 1)) (hN : Nd fi n (plc (fi 31 h)) r) : PO (va_up fi 31 (upd (fi 31) (h + 1) r)) n (h + 2) ∧ tm (va_up fi 31 (upd (fi 31) (h + 1) r)) (h + 2) < tm fi (h + 1) := by
  have e : ∀ i, va_up fi 31 (upd (fi 31) (h + 1) r) 31 i = if i = h + 1 then r else fi 31 i := fun i => by rw [va_self]; rfl
  have c7 : ∀ {r' : Int32} {lim : Nat}, Nd fi n lim r' → Nd (va_up fi 31 (upd (fi 31) (h + 1) r)) n lim r' := fun hr => hr.cg (va_up_ne _ _ (by decide)) (va_up_ne _ _ (by decide)) (va_up_ne _ _ (by decide))
  have hp := (Nd.plt hn hN).1
  refine ⟨⟨fun i hi => ?_, fun i j hij hj => ?_⟩, ?_⟩
  · rw [e]
    split
    · exact c7 (Nd.all hn hN)
    · exact c7 (P.1 i (by omega))
  · rw [e, e, if_neg (by omega : ¬ i = h + 1)]
    split
    · rcases Nat.lt_or_ge i h with g | g
      · have := P.2 i h g (by omega); omega
      · rw [show i = h by omega]; exact hp
    · exact P.2 i j hij (by omega)
  · unfold tm
    rw [if_neg (by omega), if_neg (by omega), show h + 2 - 1 = h + 1 by omega, e, if_pos rfl, show h + 1 - 1 = h by omega]
    omega
theorem PO.pop (hn : n ≤ 24) (P : PO fi n (h + 1)) (hp : plc (fi 31 h) = p) (e31 : fi' 31 = fi 31) (h7 : ∀ q, q ≠ p → fi' 7 q = fi 7 q) (h8 : ∀ q, q ≠ p → fi' 8 q = fi 8 q) (h10 : ∀ q, q ≠ p → fi' 10 q = fi 10 q) (hM : ∀ q, fi 7 q = 1 → fi' 7 q = 1) : PO fi' n h := by
  refine ⟨fun i hi => ?_, fun i j hij hj => ?_⟩
  · rw [e31]
    exact (P.1 i (by omega)).keep hn (by have := P.2 i h hi (by omega); omega) h7 h8 h10 hM
  · rw [e31]; exact P.2 i j hij (by omega)
theorem m9 {A B T c : Nat} (hT : T ≤ 9600) (hA : A = B + 1) : B * 9601 + T < A * 9601 + c := by subst hA; omega
theorem mn_meet_loop : ∀ (f h s : Nat) (v : Nat → Int32) (w : Nat → Int64) (fi : Nat → Nat → Int32) (fl : Nat → Nat → Int64), (u - s) * 9601 + tm fi h < f → IM fi n → PO fi n h → v 15 = nI u → v 16 = nI s → s ≤ u → u ≤ 5000 → KMe n u v fi Q → P_X12_meet_9 Q f v w fi fl (nI h) := by
  intro f
  induction f with
  | zero => intro h s v w fi fl hf; exact absurd hf (Nat.not_lt_zero _)
  | succ f ih =>
    intro h s v w fi fl hf I P hu hs hsu hu5 hK
    have hn := I.1
    have hh := P.high hn
    refine ⟨fun _ => hK 1 v w fi fl s I Mo.rf rfl rfl hu hs hsu, fun hpos => ?_⟩
    obtain ⟨h, rfl⟩ : ∃ g, h = g + 1 := ⟨h - 1, by
      have : 0 < h := Nat.pos_of_ne_zero (fun e => hpos (by rw [e]; decide))
      omega⟩
    have e31 : nI (h + 1) - 1 = nI h := nI_pred h
    have hv20 : vp_in (nI h) 20000 := vp_in_nI (by omega) (by decide)
    rw [e31, nI_clamp (n := h) (by omega)]
    refine ⟨hv20, ?_⟩
    rintro z rfl
    refine ⟨hv20, ?_⟩
    have tmh : tm fi (h + 1) = plc (fi 31 h) + 1 := by unfold tm; rw [if_neg (by omega), Nat.add_sub_cancel]
    -- what each outcome does
    have out : ∀ {v' : Nat → Int32} {w' : Nat → Int64}, Sc v v' → Q 0 v' w' fi fl := fun hsc => hK 0 _ _ _ _ s I Mo.rf (hsc 0 (by decide)) (hsc 12 (by decide)) ((hsc 15 (by decide)).trans hu) ((hsc 16 (by decide)).trans hs) hsu
    have need : ∀ {v' : Nat → Int32} {w' : Nat → Int64} {r : Int32}, Sc v v' → Nd fi n (plc (fi 31 h)) r → vp_in (nI (h + 1)) 20000 ∧ P_X12_meet_9 Q f v' w' (va_up fi 31 (upd (fi 31) (nI (h + 1)).toNatClampNeg r)) fl (nI (h + 1) + 1) := by
      intro v' w' r hsc hN
      rw [nI_clamp (n := h + 1) (by omega), nIs]
      obtain ⟨P2, T2⟩ := P.push hn hN
      refine ⟨vp_in_nI (by omega) (by decide), ih (h + 2) s _ _ _ _ (by omega) (I.cg (va_up_ne _ _ (by decide)) (va_up_ne _ _ (by decide)) (va_up_ne _ _ (by decide)) (va_up_ne _ _ (by decide)) (va_up_ne _ _ (by decide)) (va_up_ne _ _ (by decide)) (va_up_ne _ _ (by decide))) P2 ((hsc 15 (by decide)).trans hu) ((hsc 16 (by decide)).trans hs) hsu hu5 ?_⟩
      intro r9 v9 w9 fi9 fl9 s9 I9 M9 g0 g12 g15 g16 gs
      refine hK r9 v9 w9 fi9 fl9 s9 I9 (Mo.tr ⟨va_up_ne _ _ (by decide), va_up_ne _ _ (by decide), va_up_ne _ _ (by decide), va_up_ne _ _ (by decide), fun q _ => congrFun (va_up_ne _ _ (by decide)) q⟩ M9) (g0.trans (hsc 0 (by decide))) (g12.trans (hsc 12 (by decide))) g15 g16 gs
    have spend : ∀ {v' : Nat → Int32} {w' : Nat → Int64} {fi' : Nat → Nat → Int32} {fl' : Nat → Nat → Int64}, Sc v v' → ¬ v' 16 = v' 15 → IM fi' n → Mo fi fi' → PO fi' n h → P_X12_meet_9 Q f (va_up v' 16 (v' 16 + 1)) w' fi' fl' (nI (h + 1) + (-1)) := by
      intro v' w' fi' fl' hsc hne I' M' P'
      have e15 : v' 15 = nI u := (hsc 15 (by decide)).trans hu
      have e16 : v' 16 = nI s := (hsc 16 (by decide)).trans hs
      have hlt : s < u := by
        rcases Nat.lt_or_ge s u with e | e
        · exact e
        · exact absurd (by rw [e15, e16, show s = u by omega]) hne
      rw [pk_m1, e16, nIs]
      have hT := tm_le hn P'
      have hm : (u - (s + 1)) * 9601 + tm fi' h < f := Nat.lt_of_lt_of_le (m9 (A := u - s) (B := u - (s + 1)) (c := tm fi (h + 1)) hT (by omega)) (Nat.le_of_lt_succ hf)
      refine ih h (s + 1) _ _ _ _ hm I' P' ((va_up_ne _ _ (by decide)).trans e15) va_self (by omega) hu5 ?_
      intro r9 v9 w9 fi9 fl9 s9 I9 M9 g0 g12 g15 g16 gs
      exact hK r9 v9 w9 fi9 fl9 s9 I9 (M'.tr M9) (g0.trans ((va_up_ne _ _ (by decide)).trans (hsc 0 (by decide)))) (g12.trans ((va_up_ne _ _ (by decide)).trans (hsc 12 (by decide)))) g15 g16 gs
    rcases P.1 h (by omega) with ⟨l, k, h1, h2, h3, e9, h4, h5⟩ | ⟨l, k, h1, h2, h3, e9, h4, h5, h6⟩
    · have hpl : plc (fi 31 h) = 400 * l + k := by unfold plc; rw [e9, nI_clamp (by omega)]; omega
      have ez : nI (2 * (400 * l + k)) / 2 = nI (400 * l + k) := by
        rw [show (2 : Int32) = nI 2 from rfl, pk_div (by omega) (by decide) (by decide)]
        congr 1; omega
      have er : nI (2 * (400 * l + k)) - nI (2 * (400 * l + k)) / 2 * 2 = nI 0 := by
        rw [show (2 : Int32) = nI 2 from rfl, pk_rem (by omega) (by decide) (by decide)]
        congr 1; omega
      have el : nI (400 * l + k) / 400 = nI l := by
        rw [show (400 : Int32) = nI 400 from rfl, pk_div (by omega) (by decide) (by decide)]
        congr 1; omega
      have ek : nI (400 * l + k) - nI (400 * l + k) / 400 * 400 = nI k := by
        rw [show (400 : Int32) = nI 400 from rfl, pk_rem (by omega) (by decide) (by decide)]
        congr 1; omega
      rw [e9, er, ez, ek, el, nI_clamp (n := 400 * l + k) (by omega)]
      have hvz : vp_in (nI (400 * l + k)) 9600 := vp_in_nI (by omega) (by decide)
      refine ⟨fun _ => ⟨hvz, fun _ => ?_, fun hne => absurd h4 hne⟩, fun e => absurd e (by decide)⟩
      obtain ⟨t, hkd⟩ := I.2.1 l h1
      refine mn_lookAtCell I h1 h2 hkd h5 ⟨fun v' w' hsc => ⟨fun e => absurd rfl e, fun _ => out hsc⟩, fun v' w' r hsc hN => ⟨fun _ => ⟨fun e => absurd e (hN.ne hn).1, fun _ => need hsc (by rw [hpl]; exact hN)⟩, fun e => absurd e (hN.ne hn).2⟩, fun v' w' hsc hB => ⟨fun _ => ⟨fun _ => ⟨fun hne => ⟨hvz, hvz, hvz, ?_⟩, fun _ => out hsc⟩, fun e => absurd rfl e⟩, fun e => absurd e (by decide)⟩⟩
      obtain ⟨y, x, b1, b2, b3, b4, b5, b6⟩ := hB
      have n7 : ∀ q, q ≠ 400 * l + k → va_up (va_up (va_up fi 7 (upd (fi 7) (400 * l + k) (v' 26))) 10 (upd ((va_up fi 7 (upd (fi 7) (400 * l + k) (v' 26))) 10) (400 * l + k) ((v' 27) + 1))) 11 (upd ((va_up (va_up fi 7 (upd (fi 7) (400 * l + k) (v' 26))) 10 (upd ((va_up fi 7 (upd (fi 7) (400 * l + k) (v' 26))) 10) (400 * l + k) ((v' 27) + 1))) 11) (400 * l + k) (v' 28)) 7 q = fi 7 q := fun q hq => by
        rw [va_up_ne _ _ (by decide : (7 : Nat) ≠ 11), va_up_ne _ _ (by decide : (7 : Nat) ≠ 10), va_self]; exact pk_un hq
      obtain ⟨I2, M2⟩ := IM.set (s := v' 26) (y := y) (x := x) (fi' := va_up (va_up (va_up fi 7 (upd (fi 7) (400 * l + k) (v' 26))) 10 (upd ((va_up fi 7 (upd (fi 7) (400 * l + k) (v' 26))) 10) (400 * l + k) ((v' 27) + 1))) 11 (upd ((va_up (va_up fi 7 (upd (fi 7) (400 * l + k) (v' 26))) 10 (upd ((va_up fi 7 (upd (fi 7) (400 * l + k) (v' 26))) 10) (400 * l + k) ((v' 27) + 1))) 11) (400 * l + k) (v' 28))) I h1 h2 h4 h5 hkd b3 b4 b5 b6
        (by rw [va_up_ne _ _ (by decide), va_up_ne _ _ (by decide), va_up_ne _ _ (by decide)]) (by rw [va_up_ne _ _ (by decide), va_up_ne _ _ (by decide), va_up_ne _ _ (by decide)]) (by rw [va_up_ne _ _ (by decide), va_up_ne _ _ (by decide), va_up_ne _ _ (by decide)]) (by rw [va_up_ne _ _ (by decide), va_up_ne _ _ (by decide), va_up_ne _ _ (by decide)])
        (by rw [va_up_ne _ _ (by decide : (7 : Nat) ≠ 11), va_up_ne _ _ (by decide : (7 : Nat) ≠ 10), va_self])
        (by rw [va_up_ne _ _ (by decide : (10 : Nat) ≠ 11), va_self, va_up_ne _ _ (by decide : (10 : Nat) ≠ 7), b1])
        (by rw [va_self, va_up_ne _ _ (by decide : (11 : Nat) ≠ 10), va_up_ne _ _ (by decide : (11 : Nat) ≠ 7), b2])
      refine spend hsc hne I2 M2 (P.pop hn hpl ?_ n7 (fun q _ => ?_) (fun q hq => ?_) (fun q hq => ?_))
      · rw [va_up_ne _ _ (by decide), va_up_ne _ _ (by decide), va_up_ne _ _ (by decide)]
      · rw [va_up_ne _ _ (by decide : (8 : Nat) ≠ 11), va_up_ne _ _ (by decide : (8 : Nat) ≠ 10), va_up_ne _ _ (by decide : (8 : Nat) ≠ 7)]
      · rw [va_up_ne _ _ (by decide : (10 : Nat) ≠ 11), va_self, va_up_ne _ _ (by decide : (10 : Nat) ≠ 7)]; exact pk_un hq
      · rw [n7 q (fun e => by rw [e, h4] at hq; exact absurd hq (by decide))]; exact hq
    · have hpl : plc (fi 31 h) = 400 * l + k := by unfold plc; rw [e9, nI_clamp (by omega)]; omega
      have ez : nI (2 * (400 * l + k) + 1) / 2 = nI (400 * l + k) := by
        rw [show (2 : Int32) = nI 2 from rfl, pk_div (by omega) (by decide) (by decide)]
        congr 1; omega
      have er : nI (2 * (400 * l + k) + 1) - nI (2 * (400 * l + k) + 1) / 2 * 2 = nI 1 := by
        rw [show (2 : Int32) = nI 2 from rfl, pk_rem (by omega) (by decide) (by decide)]
        congr 1; omega
      have el : nI (400 * l + k) / 400 = nI l := by
        rw [show (400 : Int32) = nI 400 from rfl, pk_div (by omega) (by decide) (by decide)]
        congr 1; omega
      have ek : nI (400 * l + k) - nI (400 * l + k) / 400 * 400 = nI k := by
        rw [show (400 : Int32) = nI 400 from rfl, pk_rem (by omega) (by decide) (by decide)]
        congr 1; omega
      rw [e9, er, ez, ek, el, nI_clamp (n := 400 * l + k) (by omega)]
      have hvz : vp_in (nI (400 * l + k)) 9600 := vp_in_nI (by omega) (by decide)
      refine ⟨fun e => absurd rfl e, fun _ => ⟨hvz, fun _ => ?_, fun hne => absurd h4 hne⟩⟩
      refine mn_lookAtItem I h1 h2 h5 h6 ⟨fun v' w' hsc => ⟨fun e => absurd rfl e, fun _ => out hsc⟩, fun v' w' r hsc hN => ⟨fun _ => ⟨fun e => absurd e (hN.ne hn).1, fun _ => need hsc (by rw [hpl]; exact hN)⟩, fun e => absurd e (hN.ne hn).2⟩, fun v' w' hsc => ⟨fun _ => ⟨fun _ => ⟨fun hne => ⟨hvz, hvz, ?_⟩, fun _ => out hsc⟩, fun e => absurd rfl e⟩, fun e => absurd e (by decide)⟩⟩
      refine spend hsc hne (I.cg (va_up_ne _ _ (by decide)) (va_up_ne _ _ (by decide)) (va_up_ne _ _ (by decide)) (va_up_ne _ _ (by decide)) (va_up_ne _ _ (by decide)) (va_up_ne _ _ (by decide)) (va_up_ne _ _ (by decide))) ⟨va_up_ne _ _ (by decide), va_up_ne _ _ (by decide), va_up_ne _ _ (by decide), va_up_ne _ _ (by decide), fun q _ => congrFun (va_up_ne _ _ (by decide)) q⟩ (P.pop hn hpl (va_up_ne _ _ (by decide)) (fun q _ => congrFun (va_up_ne _ _ (by decide)) q) (fun q hq => ?_) (fun q _ => congrFun (va_up_ne _ _ (by decide)) q) (fun q hq => ?_))
      · rw [va_self]; exact pk_un hq
      · rw [va_up_ne _ _ (by decide)]; exact hq
end MM
end H66
