section MO
variable {v v1 : Nat → Int32} {w : Nat → Int64} {fi : Nat → Nat → Int32} {fl : Nat → Nat → Int64} {n a b k l t j : Nat} {s : Int32} {y : Int64} {Q : Int32 → MT}
theorem mn_isRight (I : IM fi n) (hl : l < 24) (hk : k ≤ 400) (ht : ∀ i, i < k → TH fi l i) (h0 : Q 0 v w fi fl) (h1 : Q 1 v w fi fl) : P_X12_isRight v w fi fl (nI l) (nI k) y Q := by
  have hv : vp_in (nI l) 24 := vp_in_nI hl (by decide)
  have key : ∀ (f i : Nat) (x : Int32), k - i < f → i ≤ k → (x = 0 ∨ x = 1) → P_X12_isRight_70 Q f v w fi fl (nI l) (nI k) y x (nI i) := by
    intro f
    induction f with
    | zero => intro i x hn; exact absurd hn (Nat.not_lt_zero _)
    | succ f ih =>
      intro i x hn hi hx
      refine ⟨fun _ => ?_, fun hlt => ?_⟩
      · rcases hx with rfl | rfl
        · exact ⟨nar0, h0⟩
        · exact ⟨nar1, h1⟩
      · have hik : i < k := by
          rcases Nat.lt_or_ge i k with e | e
          · exact e
          · exact absurd (nI_le e (by omega)) hlt
        refine mn_ownPlace I hl (by omega) (ht i hik) (fun l' j' g1 g2 g3 g4 g5 => ⟨vp_in_nI (by omega) (by decide), fun _ => ?_, fun _ => ?_⟩)
        · show P_X12_isRight_70 Q f v w fi fl (nI l) (nI k) y (x &&& 0) (nI i + 1)
          rw [nIs]
          exact ih (i + 1) _ (by omega) (by omega) (Or.inl (by rcases hx with rfl | rfl <;> decide))
        · show P_X12_isRight_70 Q f v w fi fl (nI l) (nI k) y (x &&& 1) (nI i + 1)
          rw [nIs]
          exact ih (i + 1) _ (by omega) (by omega) (by rcases hx with rfl | rfl <;> decide)
  refine ⟨hv, fun _ => ⟨hv, fun _ => ⟨_, key _ 0 _ (Nat.lt_succ_self _) (Nat.zero_le _) (Or.inr rfl)⟩, fun _ => ⟨hv, hv, mn_meets ⟨fun h => absurd rfl h, fun _ => h1⟩ ⟨fun _ => h0, fun h => absurd h (by decide)⟩⟩⟩, fun _ => ⟨hv, hv, mn_meets ⟨nar0, h0⟩ ⟨nar1, h1⟩⟩⟩
theorem mn_lookAtDuring (I : IM fi n) (hl : l < n) (hk : k < 400) (ha : a < l) (hK : KC fi fl n l k 9 v Q) : P_X12_lookAtDuring v w fi fl (nI l) (nI a) (nI k) Q := by
  have hn := I.1
  have hv : vp_in (nI l) 24 := vp_in_nI (by omega) (by decide)
  refine mn_needCell (by omega) (by omega) (fun v' hs => ⟨fun e => absurd e (by decide), fun _ => hK.1 _ _ hs⟩) (fun v' j hs h2 h3 h4 h5 => ⟨fun e => absurd e (nI_nneg (by omega)).1, fun _ => hK.2.1 _ _ _ hs (nd_cell hl ha h3 h4 h5)⟩) (fun v' hs h2 h3 e23 e24 => ⟨fun _ => ⟨fun _ => ?_, fun hne => absurd e23 hne⟩, fun hne => absurd rfl hne⟩) (fun v' j hs h2 h3 h4 e23 hz hne e24 => ⟨fun _ => ⟨fun e => absurd e hne, fun _ => mn_as (hK.to hs) (fun e => absurd e hne)⟩, fun h => absurd rfl h⟩)
  refine mn_needItem (lim := 400 * l + k) I (by omega) hk (h3 _ (Nat.le_refl _)) (by omega) (fun v2 w2 r hs2 hN => ⟨fun e => absurd e (hN.ne hn).1, fun _ => (hK.to hs).2.1 _ _ _ hs2 hN⟩) (fun v2 w2 hs2 _ hz => ⟨fun _ => ⟨fun _ => ⟨hv, hv, mn_meets ⟨fun _ => ?_, fun h => absurd rfl h⟩ ⟨fun h => absurd h (by decide), fun _ => ?_⟩⟩, fun hne => ?_⟩, fun h => absurd rfl h⟩)
  · exact mn_as ((hK.to hs).to hs2) (fun e => absurd e (by decide))
  · exact mn_shares ((hK.to hs).to hs2) ha hk (h3 _ (Nat.le_refl _)) (dq_s (by decide) (by decide) (by decide) (Nat.succ_pos _))
  · exact mn_as ((hK.to hs).to hs2) (fun e => absurd e hne)
theorem mn_lookOn (I : IM fi n) (hl : l < n) (hk : k < 400) (ha : a < l) (ht : ∀ i, i < k → TH fi l i) (h5 : 5 < t) (h13 : ¬ t = 13) (h16 : ¬ t = 16) (hK : KC fi fl n l k t v Q) : P_X12_lookOn v w fi fl (nI l) (nI a) (nI k) Q := by
  have hn := I.1
  have key : ∀ (f i : Nat) (v : Nat → Int32) (w : Nat → Int64), 401 - i < f → i ≤ 400 → KC fi fl n l k t v Q → P_X12_lookOn_24 Q f v w fi fl (nI l) (nI a) (nI k) (nI i) := by
    intro f
    induction f with
    | zero => intro i v w hn; exact absurd hn (Nat.not_lt_zero _)
    | succ f ih =>
      intro i v w hf hi hK
      refine mn_needCell (by omega) (by omega) (fun v' hs => ⟨fun e => absurd e (by decide), fun _ => hK.1 _ _ hs⟩) (fun v' j hs h2 h3 h4 h5 => ⟨fun e => absurd e (nI_nneg (by omega)).1, fun _ => hK.2.1 _ _ _ hs (nd_cell hl ha h3 h4 h5)⟩) (fun v' hs h2 h3 e23 e24 => ⟨fun _ => ⟨fun _ => ?_, fun hne => absurd e23 hne⟩, fun hne => absurd rfl hne⟩) (fun v' j hs h2 h3 h4 e23 hz hne e24 => ⟨fun _ => ⟨fun e => absurd e hne, fun _ => mn_as (hK.to hs) (fun e => absurd e hne)⟩, fun h => absurd rfl h⟩)
      refine mn_needItem (lim := 400 * l + k) I (by omega) h2 (h3 _ (Nat.le_refl _)) (by omega) (fun v2 w2 r hs2 hN => ⟨fun e => absurd e (hN.ne hn).1, fun _ => (hK.to hs).2.1 _ _ _ hs2 hN⟩) (fun v2 w2 hs2 _ hz => ⟨fun _ => ⟨fun _ => mn_isRight I (by omega) (by omega) ht ⟨fun _ => ?_, fun h => absurd rfl h⟩ ⟨fun h => absurd h (by decide), fun _ => ?_⟩, fun hne => ?_⟩, fun h => absurd rfl h⟩)
      · show P_X12_lookOn_24 Q f v2 w2 fi fl (nI l) (nI a) (nI k) (nI i + 1)
        rw [nIs]
        exact ih (i + 1) _ _ (by omega) (by omega) ((hK.to hs).to hs2)
      · exact mn_shares ((hK.to hs).to hs2) ha h2 (h3 _ (Nat.le_refl _)) (dq_s h5 h13 h16 (Nat.succ_pos _))
      · exact mn_as ((hK.to hs).to hs2) (fun e => absurd e hne)
  refine ⟨fun hne => ?_, fun _ => ⟨_, key _ 0 _ _ (Nat.lt_succ_self _) (by decide) hK⟩⟩
  have hp : 0 < k := Nat.pos_of_ne_zero (fun e => hne (by rw [e]; rfl))
  unfold P_X12_place
  rw [show (1 : Int32) = nI 1 from rfl, pk_sub hp, pl]
  obtain ⟨y, x, h1, h2, h3, h4, h6⟩ := I.2.2.1 l (k - 1) (by omega) (by omega)
  refine ⟨vp_in_nI (by omega) (by decide), fun z hz => ?_⟩
  rw [nI_clamp (by omega), h2, nI_add] at hz
  subst hz
  exact ⟨_, key _ (x + 1) _ _ (Nat.lt_succ_self _) (by omega) hK⟩
theorem mn_lookAtAll (I : IM fi n) (hl : l < n) (hk : k < 400) (ha : a < l) (e2 : fi 2 l = nI a) (hkd : Kd fi l t) (ht : ∀ i, i < k → TH fi l i) (h5 : t = 13 ∨ t = 14) (hK : KC fi fl n l k t v Q) : P_X12_lookAtAll v w fi fl (nI l) (nI a) (nI k) Q := by
  have hn := I.1
  have hv : vp_in (nI l) 24 := vp_in_nI (by omega) (by decide)
  refine mn_needCell (k := 400) (by omega) (by omega) (fun v' hs => ⟨fun e => absurd e (by decide), fun _ => hK.1 _ _ hs⟩) (fun v' j hs h2 h3 h4 h5 => ⟨fun e => absurd e (nI_nneg (by omega)).1, fun _ => hK.2.1 _ _ _ hs (nd_cell hl ha h3 h4 h5)⟩) (fun v' hs h2 h3 e23 e24 => absurd h2 (by decide)) (fun v' j hs h2 h3 h4 e23 hz hne e24 => ⟨fun _ => ⟨fun h2e => ?_, fun _ => mn_as (hK.to hs) (fun e => absurd e hne)⟩, fun h => absurd rfl h⟩)
  have ej : fi 7 (400 * a + j) = 2 := e23.symm.trans h2e
  have hK' := hK.to hs
  rw [e24]
  refine ⟨fun hkj => ⟨hv, fun h13 => ?_, fun h13 => ?_⟩, fun _ => mn_as hK' (fun e => absurd e (by decide))⟩
  · rw [nI_clamp (by omega), hkd.2.1] at h13
    have t14 : t = 14 := by
      rcases h5 with e | e
      · exact absurd (by rw [e]; rfl) h13
      · exact e
    subst t14
    have k131 : ∀ (f i : Nat) (v : Nat → Int32) (w : Nat → Int64), j - i < f → i ≤ j → KC fi fl n l k 14 v Q → P_X12_lookAtAll_131 Q f v w fi fl (nI a) (nI k) (nI j) (nI i) := by
      intro f
      induction f with
      | zero => intro i v w hf; exact absurd hf (Nat.not_lt_zero _)
      | succ f ih =>
        intro i v w hf hi hK
        refine ⟨fun _ => mn_as hK (fun e => absurd e (by decide)), fun hlt => ?_⟩
        have hij : i < j := by
          rcases Nat.lt_or_ge i j with e | e
          · exact e
          · exact absurd (nI_le e (by omega)) hlt
        refine mn_ownPlace I (by omega) (by omega) (h4 i hij) (fun l' j' g1 g2 g3 g4 g5 => ⟨vp_in_nI (by omega) (by decide), ?_⟩)
        have k158 : ∀ (g m : Nat) (x9 : Int32) (y : Int64), j - m < g → m ≤ j → P_X12_lookAtAll_158 (P_X12_lookAtAll_131 Q f) Q g v w fi fl (nI a) (nI k) (nI j) (nI i) y x9 (nI m) := by
          intro g
          induction g with
          | zero => intro m x9 y hg; exact absurd hg (Nat.not_lt_zero _)
          | succ g ih2 =>
            intro m x9 y hg hm
            have go : ∀ x9 : Int32, m < j → P_X12_lookAtAll_158 (P_X12_lookAtAll_131 Q f) Q g v w fi fl (nI a) (nI k) (nI j) (nI i) y x9 (nI m + 1) := fun x9 hm2 => by rw [nIs]; exact ih2 (m + 1) _ _ (by omega) (by omega)
            refine ⟨fun _ => ⟨fun _ => ?_, fun _ => ?_⟩, fun hlt2 => ?_⟩
            · show P_X12_lookAtAll_131 Q f v w fi fl (nI a) (nI k) (nI j) (nI i + 1)
              rw [nIs]; exact ih (i + 1) _ _ (by omega) (by omega) hK
            · exact mn_shares hK ha (by omega) (h4 i hij) (dq_s (by decide) (by decide) (by decide) (Nat.succ_pos _))
            · have hmj : m < j := by
                rcases Nat.lt_or_ge m j with e | e
                · exact e
                · exact absurd (nI_le e (by omega)) hlt2
              exact mn_ownPlace I (by omega) (by omega) (h4 m hmj) (fun l' j' g1 g2 g3 g4 g5 => ⟨vp_in_nI (by omega) (by decide), fun _ => go _ hmj, fun _ => ⟨fun _ => go _ hmj, fun _ => ⟨fun _ => go _ hmj, fun _ => go _ hmj⟩⟩⟩)
        exact ⟨_, k158 _ 0 _ _ (Nat.lt_succ_self _) (Nat.zero_le _)⟩
    have k80 : ∀ (f i : Nat) (v : Nat → Int32) (w : Nat → Int64), j - i < f → i ≤ j → KC fi fl n l k 14 v Q → P_X12_lookAtAll_80 Q f v w fi fl (nI a) (nI k) (nI j) (nI i) := by
      intro f
      induction f with
      | zero => intro i v w hf; exact absurd hf (Nat.not_lt_zero _)
      | succ f ih =>
        intro i v w hf hi hK
        refine ⟨fun _ => ⟨_, k131 _ 0 _ _ (Nat.lt_succ_self _) (Nat.zero_le _) hK⟩, fun hlt => ?_⟩
        have hij : i < j := by
          rcases Nat.lt_or_ge i j with e | e
          · exact e
          · exact absurd (nI_le e (by omega)) hlt
        refine mn_needItem (lim := 400 * l + k) I (by omega) (by omega) (h4 i hij) (by omega) (fun v2 w2 r hs2 hN => ⟨fun e => absurd e (hN.ne hn).1, fun _ => hK.2.1 _ _ _ hs2 hN⟩) (fun v2 w2 hs2 _ hz => ⟨fun _ => ⟨fun _ => ?_, fun hne => mn_as (hK.to hs2) (fun e => absurd e hne)⟩, fun h => absurd rfl h⟩)
        show P_X12_lookAtAll_80 Q f v2 w2 fi fl (nI a) (nI k) (nI j) (nI i + 1)
        rw [nIs]
        exact ih (i + 1) _ _ (by omega) (by omega) (hK.to hs2)
    exact ⟨_, k80 _ 0 _ _ (Nat.lt_succ_self _) (Nat.zero_le _) hK'⟩
  · rw [nI_clamp (by omega), hkd.2.1] at h13
    have t13 : t = 13 := nI_inj (by have := hkd.1; omega) (by decide) h13
    subst t13
    have hkj2 : k ≠ j := fun e => hkj (by rw [e])
    have hlt : k < j := by
      rcases Nat.lt_or_ge k j with e | e
      · exact e
      · obtain ⟨y, x, -, -, -, -, D⟩ := I.2.2.2.2.2 l (k - 1) 13 hl (by omega) hkd (ht (k - 1) (by omega))
        obtain ⟨a', e', q1, q2, q3, q4, q5⟩ := D.2.2.2.2.1 rfl
        have haa : a' = a := nI_inj (by omega) (by omega) (q1.symm.trans e2)
        subst haa
        have := I.2.2.2.1 a' e' (by omega) q4 (by rw [q5]; decide) j (by omega)
        rw [TH, ej] at this
        exact absurd this (by decide)
    rw [show (1 : Int32) = nI 1 from rfl, pk_sub (by omega), pk_sub (by omega)]
    exact mn_shares hK' ha (by omega) (h4 _ (by omega)) ⟨fun e => absurd e (by decide), fun e => absurd e (by decide), fun e => absurd e (by decide), fun e => absurd e (by decide), fun _ => ⟨a, j, e2, ha, hlt, h3, ej⟩, fun e => absurd e (by decide), fun _ _ => Nat.succ_pos _⟩
end MO
