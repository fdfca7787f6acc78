abbrev MT : Type := (Nat → Int32) → (Nat → Int64) → (Nat → Nat → Int32) → (Nat → Nat → Int64) → Prop
/-- only scratch fields changed -/
def Sc (v v' : Nat → Int32) : Prop := ∀ i, i < 20 → v' i = v i
theorem Sc.rf {v : Nat → Int32} : Sc v v := fun _ _ => rfl
theorem Sc.tr {v v1 v2 : Nat → Int32} (h : Sc v v1) (h2 : Sc v1 v2) : Sc v v2 := fun i hi => (h2 i hi).trans (h i hi)
theorem Sc.up {v v1 : Nat → Int32} {j : Nat} {x : Int32} (h : Sc v v1) (hj : 20 ≤ j) : Sc v (va_up v1 j x) := fun i hi => (va_up_ne _ _ (fun e => by omega)).trans (h i hi)
def TH (fi : Nat → Nat → Int32) (l k : Nat) : Prop := fi 7 (400 * l + k) = 1
/-- list l is of kind t, and refers to lists before it -/
def Kd (fi : Nat → Nat → Int32) (l t : Nat) : Prop := t ≤ 16 ∧ fi 1 l = nI t ∧ (2 < t → ∃ a, a < l ∧ fi 2 l = nI a) ∧ (t = 4 ∨ t = 11 → ∃ b, b < l ∧ fi 3 l = nI b) ∧ (t = 0 → ∃ a, a ≤ 100 ∧ fi 2 l = nI a) ∧ (t = 6 ∨ t = 7 → ∃ c, c ≤ 400 ∧ fi 4 l = nI c)
/-- what stands behind a cell that is THERE, with shareList y and shareCell x -/
def Dq (fi : Nat → Nat → Int32) (l k t y x : Nat) : Prop :=
  (t = 0 → ∃ a, fi 2 l = nI a ∧ a ≤ 100 ∧ k < a) ∧
  (t = 3 → ∃ a, fi 2 l = nI a ∧ a < l ∧ TH fi a k) ∧
  (t = 4 → ∃ a b, fi 2 l = nI a ∧ a < l ∧ fi 3 l = nI b ∧ b < l ∧ TH fi a k ∧ TH fi b k) ∧
  (t = 5 → 0 < k → ∃ a, fi 2 l = nI a ∧ a < l ∧ TH fi a (k - 1)) ∧
  (t = 13 → ∃ a e, fi 2 l = nI a ∧ a < l ∧ k < e ∧ e < 400 ∧ fi 7 (400 * a + e) = 2) ∧
  (t = 16 → ∃ a, fi 2 l = nI a ∧ a < l ∧ TH fi a x ∧ (k = 0 → TH fi a 0)) ∧
  (5 < t → ¬ t = 16 → 0 < y)
def Dp (fi : Nat → Nat → Int32) (l k t : Nat) : Prop := ∃ y x, fi 10 (400 * l + k) = nI y ∧ y ≤ 24 ∧ fi 11 (400 * l + k) = nI x ∧ x < 400 ∧ Dq fi l k t y x
def IM (fi : Nat → Nat → Int32) (n : Nat) : Prop :=
  n ≤ 24 ∧ (∀ l, l < n → ∃ t, Kd fi l t) ∧
  (∀ l k, l < 24 → k < 400 → ∃ y x, fi 10 (400 * l + k) = nI y ∧ fi 11 (400 * l + k) = nI x ∧ x < 400 ∧ y ≤ l ∧ (0 < y → TH fi (y - 1) x)) ∧
  (∀ l k, l < n → k < 400 → ¬ fi 7 (400 * l + k) = 0 → ∀ j, j < k → TH fi l j) ∧
  (∀ l k, l < 24 → k < 400 → n ≤ l → fi 7 (400 * l + k) = 0) ∧
  (∀ l k t, l < n → k < 400 → Kd fi l t → TH fi l k → Dp fi l k t)
/-- a goal of a place below lim -/
def Nd (fi : Nat → Nat → Int32) (n lim : Nat) (r : Int32) : Prop :=
  (∃ l k, l < n ∧ k < 400 ∧ 400 * l + k < lim ∧ r = nI (2 * (400 * l + k)) ∧ fi 7 (400 * l + k) = 0 ∧ ∀ i, i < k → TH fi l i) ∨
  (∃ l k, l < n ∧ k < 400 ∧ 400 * l + k < lim ∧ r = nI (2 * (400 * l + k) + 1) ∧ fi 8 (400 * l + k) = 0 ∧ TH fi l k ∧ fi 10 (400 * l + k) = 0)
theorem nI_nneg {n : Nat} (h : n < 2 ^ 31) : ¬ nI n = -1 ∧ ¬ nI n = -2 := ⟨fun e => by have := nI_pos (n := n) h; rw [e] at this; exact this (by decide), fun e => by have := nI_pos (n := n) h; rw [e] at this; exact this (by decide)⟩
theorem Nd.ne {fi : Nat → Nat → Int32} {n lim : Nat} {r : Int32} (hn : n ≤ 24) (h : Nd fi n lim r) : ¬ r = -1 ∧ ¬ r = -2 := by
  rcases h with ⟨l, k, h1, h2, h3, rfl, -⟩ | ⟨l, k, h1, h2, h3, rfl, -⟩ <;> exact nI_nneg (by omega)
theorem Nd.up {fi : Nat → Nat → Int32} {n lim lim' : Nat} {r : Int32} (h : Nd fi n lim r) (hl : lim ≤ lim') : Nd fi n lim' r := by
  rcases h with ⟨l, k, h1, h2, h3, h4⟩ | ⟨l, k, h1, h2, h3, h4⟩
  · exact Or.inl ⟨l, k, h1, h2, by omega, h4⟩
  · exact Or.inr ⟨l, k, h1, h2, by omega, h4⟩
section MN
variable {v : Nat → Int32} {w : Nat → Int64} {fi : Nat → Nat → Int32} {fl : Nat → Nat → Int64} {n a k l : Nat} {Q : Int32 → MT}
theorem pl {a j : Nat} : (400 : Int32) * nI a + nI j = nI (400 * a + j) := by
  rw [show (400 : Int32) = nI 400 from rfl, pk_mul, nI_add]
theorem dbl {p : Nat} : (2 : Int32) * nI p = nI (2 * p) := pk_mul 2 p
theorem mn_needCell (ha : a < 24) (hk : k ≤ 1000)
    (hO : ∀ v', Sc v v' → Q (-2) v' w fi fl)
    (hN : ∀ v' j, Sc v v' → j ≤ k → j < 400 → fi 7 (400 * a + j) = 0 → (∀ i, i < j → TH fi a i) → Q (nI (2 * (400 * a + j))) v' w fi fl)
    (hT : ∀ v', Sc v v' → k < 400 → (∀ i, i ≤ k → TH fi a i) → v' 23 = 1 → v' 24 = nI k → Q (-1) v' w fi fl)
    (hE : ∀ v' j, Sc v v' → j ≤ k → j < 400 → (∀ i, i < j → TH fi a i) → v' 23 = fi 7 (400 * a + j) → ¬ v' 23 = 0 → ¬ v' 23 = 1 → v' 24 = nI j → Q (-1) v' w fi fl) : P_X12_needCell v w fi fl (nI a) (nI k) Q := by
  have key : ∀ (f j : Nat) (v' : Nat → Int32), 401 - j < f → j ≤ k + 1 → j ≤ 400 → Sc v v' → (∀ i, i < j → TH fi a i) → (0 < j → v' 23 = 1 ∧ v' 24 = nI (j - 1)) → P_X12_needCell_2 Q f v' w fi fl (nI a) (nI k) (nI j) := by
    intro f
    induction f with
    | zero => intro j v' hn; exact absurd hn (Nat.not_lt_zero _)
    | succ f ih =>
      intro j v' hn hj h4 hs ht hv
      refine ⟨fun hlt => ?_, fun hge => ⟨fun hx => ?_, fun _ => hO _ hs⟩⟩
      · have : k < j := (nI_ltI (by omega) (by omega)).mp hlt
        obtain ⟨h1, h2⟩ := hv (by omega)
        exact hT _ hs (by omega) (fun i hi => ht i (by omega)) h1 (by rw [h2, show j - 1 = k by omega])
      · have hj4 : j < 400 := (nI_ltI (a := j) (b := 400) (by omega) (by omega)).mp hx
        have hjk : j ≤ k := by
          have : ¬ k < j := fun h => hge ((nI_ltI (by omega) (by omega)).mpr h)
          omega
        show vp_in (400 * nI a + nI j) 9600 ∧ _
        unfold P_X12_place
        rw [pl, nI_clamp (by omega)]
        have hs2 : Sc v (va_up (va_up v' 23 (fi 7 (400 * a + j))) 24 (nI j)) := (hs.up (by decide)).up (by decide)
        have e23 : va_up (va_up v' 23 (fi 7 (400 * a + j))) 24 (nI j) 23 = fi 7 (400 * a + j) := by rw [va_up_ne _ _ (by decide), va_self]
        have e24 : va_up (va_up v' 23 (fi 7 (400 * a + j))) 24 (nI j) 24 = nI j := va_self
        refine ⟨vp_in_nI (by omega) (by decide), fun hne => ⟨fun h1 => ?_, fun h1 => ?_⟩, fun h0 => ?_⟩
        · rw [nIs]
          refine ih (j + 1) _ (by omega) (by omega) (by omega) hs2 (fun i hi => ?_) (fun _ => ⟨e23.trans h1, by rw [e24, Nat.add_sub_cancel]⟩)
          rcases Nat.lt_or_ge i j with e | e
          · exact ht i e
          · rw [show i = j by omega]; exact h1
        · exact hE _ j hs2 hjk hj4 ht e23 (by rw [e23]; exact hne) (by rw [e23]; exact h1) e24
        · show Q (2 * nI (400 * a + j)) _ _ _ _
          rw [dbl]; exact hN _ j hs2 hjk hj4 h0 ht
  exact ⟨_, key _ 0 v (Nat.lt_succ_self _) (Nat.zero_le _) (Nat.zero_le _) Sc.rf (fun i hi => absurd hi (Nat.not_lt_zero _)) (fun h => absurd h (Nat.not_lt_zero _))⟩
theorem mn_ownPlace (I : IM fi n) (ha : a < 24) (hk : k < 400) (ht : TH fi a k)
    (hQ : ∀ l j, l ≤ a → j < 400 → 400 * l + j ≤ 400 * a + k → TH fi l j → fi 10 (400 * l + j) = 0 → Q (nI (400 * l + j)) v w fi fl) : P_X12_ownPlace v w fi fl (nI a) (nI k) Q := by
  have key : ∀ (f l j : Nat), l < f → l ≤ a → j < 400 → 400 * l + j ≤ 400 * a + k → TH fi l j → P_X12_ownPlace_6 Q f v w fi fl (nI (400 * l + j)) := by
    intro f
    induction f with
    | zero => intro l j hn; exact absurd hn (Nat.not_lt_zero _)
    | succ f ih =>
      intro l j hn hl hj hle ht
      have hv : vp_in (nI (400 * l + j)) 9600 := vp_in_nI (by omega) (by decide)
      show vp_in _ 9600 ∧ _
      rw [nI_clamp (by omega)]
      refine ⟨hv, fun h0 => hQ l j hl hj hle ht h0, fun hne => ⟨hv, hv, ?_⟩⟩
      obtain ⟨y, x, h1, h2, h3, h4, h5⟩ := I.2.2.1 l j (by omega) hj
      have hy : 0 < y := Nat.pos_of_ne_zero (fun e => hne (by rw [h1, e]; rfl))
      unfold P_X12_place
      rw [h1, h2, show (1 : Int32) = nI 1 from rfl, pk_sub hy, pl]
      exact ih (y - 1) x (by omega) (by omega) h3 (by omega) (h5 hy)
  unfold P_X12_ownPlace P_X12_place
  rw [pl]
  exact ⟨a + 1, key _ a k (Nat.lt_succ_self _) (Nat.le_refl _) hk (Nat.le_refl _) ht⟩
theorem mn_needItem {lim : Nat} (I : IM fi n) (ha : a < n) (hk : k < 400) (ht : TH fi a k) (hl : 400 * a + k < lim)
    (hN : ∀ v' w' r, Sc v v' → Nd fi n lim r → Q r v' w' fi fl)
    (hT : ∀ v' w', Sc v v' → (∀ i, 26 ≤ i → v' i = v i) → ¬ v' 23 = 0 → Q (-1) v' w' fi fl) : P_X12_needItem v w fi fl (nI a) (nI k) Q := by
  have hn := I.1
  refine mn_ownPlace I (by omega) hk ht (fun l j h1 h2 h3 h4 h5 => ?_)
  have hv : vp_in (nI (400 * l + j)) 9600 := vp_in_nI (by omega) (by decide)
  rw [nI_clamp (by omega)]
  refine ⟨hv, hv, fun hne => hT _ _ (Sc.rf.up (by decide)) (fun i hi => va_up_ne _ _ (by omega)) (by rw [va_self]; exact hne), fun h0 => ?_⟩
  rw [dbl, nIs]
  exact hN _ _ _ (Sc.rf.up (by decide)) (Or.inr ⟨l, j, by omega, h2, by omega, rfl, h0, h4, h5⟩)
end MN
