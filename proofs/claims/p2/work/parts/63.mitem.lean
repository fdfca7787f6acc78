/-- what a look at an item may tell -/
def KI (fi : Nat → Nat → Int32) (fl : Nat → Nat → Int64) (n lim : Nat) (v : Nat → Int32) (Q : Int32 → MT) : Prop :=
  (∀ v' w', Sc v v' → Q (-2) v' w' fi fl) ∧ (∀ v' w' r, Sc v v' → Nd fi n lim r → Q r v' w' fi fl) ∧ (∀ v' w', Sc v v' → Q (-1) v' w' fi fl)
/-- what a look at a run may tell -/
def Rn (fi : Nat → Nat → Int32) (a : Nat) (v : Nat → Int32) : Prop := v 27 = -1 ∧ ∃ x, v 28 = nI x ∧ x < 400 ∧ (v 26 = 1 → TH fi a x)
def KR (fi : Nat → Nat → Int32) (fl : Nat → Nat → Int64) (n lim a : Nat) (v : Nat → Int32) (Q : Int32 → MT) : Prop :=
  (∀ v' w', Sc v v' → Q (-2) v' w' fi fl) ∧ (∀ v' w' r, Sc v v' → Nd fi n lim r → Q r v' w' fi fl) ∧ (∀ v' w', Sc v v' → Rn fi a v' → Q (-1) v' w' fi fl)
section MI
variable {v v1 : Nat → Int32} {w : Nat → Int64} {fi : Nat → Nat → Int32} {fl : Nat → Nat → Int64} {n a b k l t j lim : Nat} {s p0 p3 p4 : Int32} {y y2 : Int64} {Q : Int32 → MT}
theorem KI.to (h : KI fi fl n lim v Q) (hs : Sc v v1) : KI fi fl n lim v1 Q := ⟨fun v' w' e => h.1 v' w' (hs.tr e), fun v' w' r e => h.2.1 v' w' r (hs.tr e), fun v' w' e => h.2.2 v' w' (hs.tr e)⟩
theorem KR.to (h : KR fi fl n lim a v Q) (hs : Sc v v1) : KR fi fl n lim a v1 Q := ⟨fun v' w' e => h.1 v' w' (hs.tr e), fun v' w' r e => h.2.1 v' w' r (hs.tr e), fun v' w' e => h.2.2 v' w' (hs.tr e)⟩
theorem mn_floor {P : Int64 → Prop} (h : ¬ y2 = 0) (hP : ∀ r, P r) : P_X12_floor y y2 P := ⟨h, h, fun _ => hP _, fun _ => ⟨fun _ => ⟨fun _ => hP _, fun _ => hP _⟩, fun _ => ⟨fun _ => hP _, fun _ => hP _⟩⟩⟩
theorem mn_op (hQ : ∀ r w', Q r v w' fi fl) : P_X12_op v w fi fl p0 y y2 Q := by
  have hz : ¬ lg_cmp y2 0 = 0 → ¬ y2 = 0 := fun h e => h (cmp0.mpr e)
  refine ⟨fun _ => ⟨fun h => mn_floor (hz h) (fun _ => hQ _ _), fun _ => hQ _ _⟩, fun _ => ⟨fun _ => ⟨fun _ => hQ _ _, fun _ => ⟨fun _ => hQ _ _, fun _ => ⟨fun _ => hQ _ _, fun _ => ⟨fun _ => ⟨fun _ => hQ _ _, fun _ => hQ _ _⟩, fun _ => ⟨fun _ => ⟨fun _ => hQ _ _, fun _ => hQ _ _⟩, fun _ => ⟨fun _ => hQ _ _, fun _ => hQ _ _⟩⟩⟩⟩⟩⟩, fun _ => ⟨fun h => mn_floor (hz h) (fun _ => hQ _ _), fun _ => hQ _ _⟩⟩⟩
theorem mn_ofItems {i : Nat} (I : IM fi n) (ha : a < n) (hi : i < 400) (ht : TH fi a i) (hl : 400 * a + i < lim) (hb : p3 = -1 ∨ ∃ b j, p3 = nI b ∧ p4 = nI j ∧ b < n ∧ j < 400 ∧ TH fi b j ∧ 400 * b + j < lim) (hK : KI fi fl n lim v Q) : P_X12_ofItems v w fi fl p0 (nI a) (nI i) p3 p4 y Q := by
  have hn := I.1
  have fin : ∀ {v1 : Nat → Int32} {w1 : Nat → Int64} {r : Int32}, Sc v v1 → Q (-1) (va_up v1 26 r) w1 fi fl := fun hs => hK.2.2 _ _ (hs.up (by decide))
  refine ⟨fun _ => ⟨fun _ => mn_op (fun r w' => fin Sc.rf), fun h3 => ?_⟩, fun _ => mn_needItem I ha hi ht hl (fun v2 w2 r hs2 hN => ⟨fun e => absurd e (hN.ne hn).1, fun _ => hK.2.1 _ _ _ hs2 hN⟩) (fun v2 w2 hs2 _ hz => ⟨fun _ => ⟨fun _ => ⟨fun _ => mn_op (fun r w' => fin (hs2.up (by decide))), fun _ => ⟨fun _ => mn_op (fun r w' => fin (hs2.up (by decide))), fun h3 => ?_⟩⟩, fun _ => fin hs2⟩, fun h => absurd rfl h⟩)⟩
  · rcases hb with e | ⟨b, j, rfl, rfl, b1, b2, b3, b4⟩
    · exact absurd e h3
    · exact mn_needItem I b1 b2 b3 b4 (fun v2 w2 r hs2 hN => ⟨fun e => absurd e (hN.ne hn).1, fun _ => hK.2.1 _ _ _ hs2 hN⟩) (fun v2 w2 hs2 _ hz => ⟨fun _ => ⟨fun _ => mn_op (fun r w' => fin (hs2.up (by decide))), fun _ => fin hs2⟩, fun h => absurd rfl h⟩)
  · rcases hb with e | ⟨b, j, rfl, rfl, b1, b2, b3, b4⟩
    · exact absurd e h3
    · have hs3 : Sc v (va_up v2 26 (v2 23)) := hs2.up (by decide)
      exact mn_needItem I b1 b2 b3 b4 (fun v2 w2 r hs2 hN => ⟨fun e => absurd e (hN.ne hn).1, fun _ => hK.2.1 _ _ _ (hs3.tr hs2) hN⟩) (fun v2 w2 hs2 _ hz => ⟨fun _ => ⟨fun _ => mn_op (fun r w' => fin ((hs3.tr hs2).up (by decide))), fun _ => fin (hs3.tr hs2)⟩, fun h => absurd rfl h⟩)
theorem mn_asR (hK : KR fi fl n lim a v Q) (h : ¬ s = 1) : P_X12_as v w fi fl s Q := by
  have e28 : va_up (va_up (va_up v 26 s) 27 (-1)) 28 0 28 = 0 := va_self
  have e27 : va_up (va_up (va_up v 26 s) 27 (-1)) 28 0 27 = -1 := by rw [va_up_ne _ _ (by decide), va_self]
  have e26 : va_up (va_up (va_up v 26 s) 27 (-1)) 28 0 26 = s := by rw [va_up_ne _ _ (by decide), va_up_ne _ _ (by decide), va_self]
  exact hK.2.2 _ _ (((Sc.rf.up (by decide)).up (by decide)).up (by decide)) ⟨e27, 0, e28, by decide, fun e => absurd (e26.symm.trans e) h⟩
theorem mn_lookAtRun (I : IM fi n) (hl : l < n) (hk : k < 400) (ha : a < l) (e2 : fi 2 l = nI a) (hlim : 400 * l ≤ lim) {x : Nat} (e11 : fi 11 (400 * l + k) = nI x) (hx : x < 400) (htx : TH fi a x) (ht0 : k = 0 → TH fi a 0) (hK : KR fi fl n lim a v Q) : P_X12_lookAtRun v w fi fl (nI l) (nI k) Q := by
  have hn := I.1
  have hv : vp_in (nI l) 24 := vp_in_nI (by omega) (by decide)
  have key : ∀ (f i : Nat) (x4 : Int32) (x6 : Int64) (v : Nat → Int32) (w : Nat → Int64), 401 - i < f → i ≤ 400 → KR fi fl n lim a v Q → P_X12_lookAtRun_74 Q f v w fi fl (nI a) x4 x6 (nI i) := by
    intro f
    induction f with
    | zero => intro i x4 x6 v w hf; exact absurd hf (Nat.not_lt_zero _)
    | succ f ih =>
      intro i x4 x6 v w hf hi hK
      refine mn_needCell (by omega) (by omega) (fun v' hs => ⟨fun e => absurd e (by decide), fun _ => hK.1 _ _ hs⟩) (fun v' j hs h2 h3 h4 h5 => ⟨fun e => absurd e (nI_nneg (by omega)).1, fun _ => hK.2.1 _ _ _ hs (Or.inl ⟨a, j, by omega, h3, by omega, rfl, h4, h5⟩)⟩) (fun v' hs h2 h3 e23 e24 => ⟨fun _ => ⟨fun _ => ?_, fun hne => absurd e23 hne⟩, fun hne => absurd rfl hne⟩) (fun v' j hs h2 h3 h4 e23 hz hne e24 => ⟨fun _ => ⟨fun e => absurd e hne, fun _ => mn_asR (hK.to (hs.up (by decide))) hne⟩, fun h => absurd rfl h⟩)
      have hs' : Sc v (va_up v' 29 (nI i - x4)) := hs.up (by decide)
      refine mn_needItem (lim := lim) I (by omega) h2 (h3 _ (Nat.le_refl _)) (by omega) (fun v2 w2 r hs2 hN => ⟨fun e => absurd e (hN.ne hn).1, fun _ => hK.2.1 _ _ _ (hs'.tr hs2) hN⟩) (fun v2 w2 hs2 _ hz => ⟨fun _ => ⟨fun _ => ⟨fun _ => ?_, fun _ => ?_⟩, fun hne => mn_asR (hK.to (hs'.tr hs2)) hne⟩, fun h => absurd rfl h⟩)
      · show P_X12_lookAtRun_74 Q f v2 w2 fi fl (nI a) x4 x6 (nI i + 1)
        rw [nIs]
        exact ih (i + 1) _ _ _ _ (by omega) (by omega) (hK.to (hs'.tr hs2))
      · refine hK.2.2 _ _ ((hs'.tr hs2).tr ((((Sc.rf.up (by decide)).up (by decide)).up (by decide)).up (by decide))) ⟨?_, i, va_self, h2, fun _ => h3 _ (Nat.le_refl _)⟩
        rw [va_up_ne _ _ (by decide), va_up_ne _ _ (by decide), va_self]
  refine ⟨hv, fun hne => ?_, fun he => ?_⟩
  · unfold P_X12_place
    rw [pl]
    dsimp only
    rw [nI_clamp (n := l) (by omega), nI_clamp (n := 400 * l + k) (by omega), e2, e11]
    refine ⟨vp_in_nI (by omega) (by decide), mn_needItem (lim := lim) I (by omega) hx htx (by omega) (fun v2 w2 r hs2 hN => ⟨fun e => absurd e (hN.ne hn).1, fun _ => hK.2.1 _ _ _ hs2 hN⟩) (fun v2 w2 hs2 _ hz => ⟨fun _ => ⟨fun _ => ?_, fun hne => mn_asR (hK.to hs2) hne⟩, fun h => absurd rfl h⟩)⟩
    intro z hz
    rw [nIs] at hz
    subst hz
    exact ⟨_, key _ (x + 1) _ _ _ _ (Nat.lt_succ_self _) (by omega) (hK.to hs2)⟩
  · have hk0 : k = 0 := nI_inj (by omega) (by decide) (he.trans nI_0.symm)
    rw [nI_clamp (by omega), e2]
    refine mn_needItem (k := 0) (lim := lim) I (by omega) (by decide) (ht0 hk0) (by omega) (fun v2 w2 r hs2 hN => ⟨fun e => absurd e (hN.ne hn).1, fun _ => hK.2.1 _ _ _ hs2 hN⟩) (fun v2 w2 hs2 _ hz => ⟨fun _ => ⟨fun _ => ⟨_, key _ 1 _ _ _ _ (Nat.lt_succ_self _) (by decide) (hK.to hs2)⟩, fun hne => mn_asR (hK.to hs2) hne⟩, fun h => absurd rfl h⟩)
end MI
