section CM
variable {sh : Sh} {rk : Nat → Nat} {ci ai ci1 ai1 ci2 ai2 : Nat → Nat → Int32} {al : Nat → Nat → Int64} {q r : Nat} {k x : Int32} {Gr Gw : GTy} {Q : Int32 → SCTy}
theorem nI_inj {a b : Nat} (ha : a < 2 ^ 31) (hb : b < 2 ^ 31) (h : nI a = nI b) : a = b := by
  have := congrArg Int32.toNatClampNeg h
  rwa [nI_clamp ha, nI_clamp hb] at this
theorem up_same {f : Nat → Nat → Int32} {q k : Nat} {x : Int32} : va_up f q (va_up (f q) k x) q k = x := by
  simp only [va_up, if_true]
theorem CI.met (h : CI sh ci ai) {m : Nat} (hm : m ≤ 400) : CI sh (va_up ci q (va_up (ci q) 3 (nI m))) ai := by
  refine ⟨h.1, h.2.1, fun z hz hk => ?_, fun z hz => ?_⟩
  · rw [up2 (fun e => absurd e.2 (by decide))]; exact h.2.2.1 z hz hk
  · obtain ⟨m1, c, h1, h2, h3, h4, h5⟩ := h.2.2.2 z hz
    by_cases e : z = q
    · subst e
      refine ⟨m, c, up_same, ?_, h3, by omega, fun _ => hm⟩
      rw [up2 (fun e => absurd e.2 (by decide))]; exact h2
    · refine ⟨m1, c, ?_, ?_, h3, h4, h5⟩
      · rw [up2 (fun e2 => e e2.1)]; exact h1
      · rw [up2 (fun e2 => e e2.1)]; exact h2
theorem CI.close (h : CI sh ci ai) (hx : r8 x) : CI sh (va_up ci q (va_up (ci q) 4 x)) ai := by
  obtain ⟨n, n1, n2, rfl⟩ := hx
  refine ⟨h.1, h.2.1, fun z hz hk => ?_, fun z hz => ?_⟩
  · rw [up2 (fun e => absurd e.2 (by decide))]; exact h.2.2.1 z hz hk
  · obtain ⟨m1, c, h1, h2, h3, h4, h5⟩ := h.2.2.2 z hz
    by_cases e : z = q
    · subst e
      refine ⟨m1, n, ?_, up_same, n2, h4, fun h0 => by omega⟩
      rw [up2 (fun e => absurd e.2 (by decide))]; exact h1
    · refine ⟨m1, c, ?_, ?_, h3, h4, h5⟩
      · rw [up2 (fun e2 => e e2.1)]; exact h1
      · rw [up2 (fun e2 => e e2.1)]; exact h2
theorem Rel.own {j : Nat} (hq : LZ sh q) : Rel sh rk (rk q + 1) ci ai (va_up ci q (va_up (ci q) j x)) ai := by
  refine ⟨fun _ _ _ _ h => h, fun z hz hr => ?_, fun z hz => ?_⟩
  · have e : ¬ z = q := fun e => by rw [e] at hr; omega
    exact ⟨up2 (fun e2 => e e2.1), up2 (fun e2 => e e2.1)⟩
  · refine va_up_ne _ _ (fun e => ?_)
    have := hq.2
    rw [← e, hz] at this
    exact absurd this (by decide)
theorem ok_reach (hw : Wf sh rk) (hL : Low sh rk (rk q) Gr Gw) (hq : LZ sh q) (h : CI sh ci ai) (hK : Kt sh rk (rk q + 1) ci ai Q) : P_X5_reach sh Gr Gw ci ai al q k Q := by
  obtain ⟨b, hb, b1, b2⟩ := (hw q hq).1
  have fin : ∀ (c1 a1 : Nat → Nat → Int32) (l1 : Nat → Nat → Int64), CI sh c1 a1 → Kt sh rk (rk q + 1) c1 a1 Q → (c1 q 4 = 0 → ¬ c1 q 3 ≤ k) → P_X5_there sh c1 a1 l1 q (fun r1 => ((r1 ≤ k) → (Q (c1 q 4) c1 a1 l1)) ∧ ((¬ r1 ≤ k) → (Q 1 c1 a1 l1))) := by
    intro c1 a1 l1 d1 K1 hc
    obtain ⟨m, c, e1, e2, e3, e4, e5⟩ := d1.2.2.2 q hq
    refine ⟨hq, fun hne => ⟨fun _ => K1 _ _ _ _ ?_ d1 Rel.rf, fun _ => K1 _ _ _ _ r8_1 d1 Rel.rf⟩, fun he => ⟨fun hle => absurd hle (hc he), fun _ => K1 _ _ _ _ r8_1 d1 Rel.rf⟩⟩
    exact m8.r8 ⟨c, e3, e2⟩ hne
  have key : ∀ (n m : Nat) (x2 : Int32) (c1 a1 : Nat → Nat → Int32) (l1 : Nat → Nat → Int64), 401 - m < n → m ≤ 401 → (x2 = k ∨ x2 = 400) → CI sh c1 a1 → c1 q 3 = nI m → Kt sh rk (rk q + 1) c1 a1 Q → P_X5_reach_13 sh Gr Gw Q q n c1 a1 l1 k x2 (nI m) := by
    intro n
    induction n with
    | zero => intro m x2 c1 a1 l1 hn; exact absurd hn (Nat.not_lt_zero _)
    | succ n ih =>
      intro m x2 c1 a1 l1 hn hm hx2 d1 em K1
      refine ⟨fun hlt => fin _ _ _ d1 K1 (fun h0 => ?_), fun hge => ⟨fun hne => fin _ _ _ d1 K1 (fun h0 => absurd h0 hne), fun h0 => ⟨fun h400 => ?_, fun _ => K1 _ _ _ _ r8_3 d1 Rel.rf⟩⟩⟩
      · obtain ⟨m2, c, e1, e2, e3, e4, e5⟩ := d1.2.2.2 q hq
        have hc : c = 0 := nI_inj (by omega) (by omega) (e2.symm.trans h0)
        have hmm : m2 = m := nI_inj (by omega) (by omega) (e1.symm.trans em)
        have hm4 := e5 hc
        rw [em]
        rcases hx2 with rfl | rfl
        · exact Int32.not_le.mpr hlt
        · exact absurd hlt (Int32.not_lt.mpr (nI_le (a := m) (b := 400) (by omega) (by omega)))
      · have hm4 : m ≤ 399 := by
          obtain ⟨m2, c, e1, e2, e3, e4, e5⟩ := d1.2.2.2 q hq
          have hc : c = 0 := nI_inj (by omega) (by omega) (e2.symm.trans h0)
          have hmm : m2 = m := nI_inj (by omega) (by omega) (e1.symm.trans em)
          have : m ≠ 400 := fun e => h400 (by rw [e]; rfl)
          have := e5 hc
          omega
        refine ok_seek hw hL hq d1 (fun r3 c3 a3 l3 e1 e2 e3 => ⟨fun _ => K1 _ _ _ _ r8_3 e2 (e3.up (Nat.le_succ _)), fun hr3 => ⟨b, hb, ⟨b1, b2⟩, ok_spend (rk := rk) e2 b1 b2 (fun y c8 hy f2 f3 => ⟨fun _ => ⟨fun _ => ?_, fun _ => ?_⟩, fun _ => K1 _ _ _ _ r8_3 f2 ((e3.up (Nat.le_succ _)).tr (f3.up (Nat.zero_le _)))⟩)⟩⟩)
        · rw [nIs]
          exact ih (m + 1) x2 _ _ _ (by omega) (by omega) hx2 (f2.met (by omega)) up_same (K1.to (((e3.up (Nat.le_succ _)).tr (f3.up (Nat.zero_le _))).tr (Rel.own hq)))
        · rw [nIs]
          refine ih (m + 1) x2 _ _ _ (by omega) (by omega) hx2 ((f2.met (by omega)).close e1) ?_ (K1.to ((((e3.up (Nat.le_succ _)).tr (f3.up (Nat.zero_le _))).tr (Rel.own hq)).tr (Rel.own hq)))
          rw [up2 (fun e => absurd e.2 (by decide))]; exact up_same
  obtain ⟨m, c, e1, e2, e3, e4, e5⟩ := h.2.2.2 q hq
  have hgo : ∀ x2, (x2 = k ∨ x2 = 400) → ∃ n9 : Nat, P_X5_reach_13 sh Gr Gw Q q n9 ci ai al k x2 (ci q 3) := by
    intro x2 hx2
    rw [e1]
    exact ⟨_, key _ m x2 _ _ _ (Nat.lt_succ_self _) e4 hx2 h e1 hK⟩
  exact ⟨hq, fun _ => hgo _ (Or.inr rfl), fun _ => hgo _ (Or.inl rfl)⟩
theorem ok_work (hw : Wf sh rk) (hL : Low sh rk (rk q) Gr Gw) (hq : LZ sh q)
    (hA : sK sh q = 0 → ∀ b, sR sh q 2 = some b → ∀ j, j < sN sh b → k = nI j → 0 < j → ai b j = 0 → ∀ Q, Kt sh rk (rk q) ci ai Q → P_X0_workAhead sh Gr Gw ci ai al q (nI j) Q)
    (h : CI sh ci ai) (hK : KtW sh rk q k ci ai Q) : P_X5_work sh Gr Gw ci ai al q k Q := by
  obtain ⟨b, hb, b1, b2, b3⟩ := (hw q hq).2.2.1
  obtain ⟨t, ht, t1, t2⟩ := (hw q hq).1
  have st : ∀ {al' : Nat → Nat → Int64} {c a : Nat → Nat → Int32}, CI sh c a → Rel sh rk (rk q) ci ai c a → Q 3 c a al' := fun h1 h2 => hK _ _ _ _ r8_3 h1 h2 (fun _ _ _ _ _ _ h => absurd rfl h)
  have own : (((k < 0) → (Q 3 ci ai al)) ∧ ((¬ k < 0) → (∃ q2 : Nat, sR sh q 2 = some q2 ∧ (q2 ∈ sL sh ∧ sK sh q2 = 21) ∧ ((k < (nI (sN sh q2))) → (vp_in k (sN sh q2) ∧ ((¬ (ai q2 k.toNatClampNeg) = 0) → (vp_in k (sN sh q2) ∧ Q (ai q2 k.toNatClampNeg) ci ai al)) ∧ (((ai q2 k.toNatClampNeg) = 0) → (P_V_form sh Gr Gw ci ai al q k (fun r8 ci8 ai8 al8 => ((r8 = 3) → (Q 3 ci8 ai8 al8)) ∧ ((¬ r8 = 3) → (∃ q9 : Nat, sR sh q 0 = some q9 ∧ (q9 ∈ sL sh ∧ sK sh q9 = 5) ∧ P_X6_spend sh ci8 ai8 al8 q9  (fun r13 ci13 ai13 al13 => ((¬ r13 = 0) → (vp_in k (sN sh q2) ∧ vp_in k (sN sh q2) ∧ Q ((va_up ai13 q2 (upd (ai13 q2) k.toNatClampNeg (vp_nar .byte r8.toInt8.toInt32))) q2 k.toNatClampNeg) ci13 (va_up ai13 q2 (upd (ai13 q2) k.toNatClampNeg (vp_nar .byte r8.toInt8.toInt32))) al13)) ∧ ((r13 = 0) → (Q 3 ci13 ai13 al13)))))))))) ∧ ((¬ k < (nI (sN sh q2))) → (Q 3 ci ai al))))) := by
    refine ⟨fun _ => st h Rel.rf, fun h0 => ⟨b, hb, ⟨b1, b2⟩, fun hlt => ?_, fun _ => st h Rel.rf⟩⟩
    obtain ⟨j, hj, ej, -⟩ := pk_mu h0 (Int32.not_le.mpr hlt) (show sN sh b < 2 ^ 31 by omega)
    subst ej
    have hv : vp_in (nI j) (sN sh b) := vp_in_nI hj (by omega)
    rw [nI_clamp (by omega : j < 2 ^ 31)]
    have hone : ∀ b', sR sh q 2 = some b' → b' = b := fun b' e => Option.some.inj (e.symm.trans hb)
    refine ⟨hv, fun hne => ⟨hv, hK _ _ _ _ ((h.1 b b1 b2 j).r8 hne) h Rel.rf (fun _ b' e j' hj' ej' _ => ?_)⟩, fun hz => ?_⟩
    · rw [hone b' e, ← nI_inj (by omega) (by rw [hone b' e] at hj'; omega) ej']; exact hne
    · have hKf : Kt sh rk (rk q) ci ai (fun r8 ci8 ai8 al8 => ((r8 = 3) → (Q 3 ci8 ai8 al8)) ∧ ((¬ r8 = 3) → (∃ q9 : Nat, sR sh q 0 = some q9 ∧ (q9 ∈ sL sh ∧ sK sh q9 = 5) ∧ P_X6_spend sh ci8 ai8 al8 q9  (fun r13 ci13 ai13 al13 => ((¬ r13 = 0) → (vp_in (nI j) (sN sh b) ∧ vp_in (nI j) (sN sh b) ∧ Q ((va_up ai13 b (upd (ai13 b) j (vp_nar .byte r8.toInt8.toInt32))) b j) ci13 (va_up ai13 b (upd (ai13 b) j (vp_nar .byte r8.toInt8.toInt32))) al13)) ∧ ((r13 = 0) → (Q 3 ci13 ai13 al13)))))) := by
        intro y c8 a8 l8 e1 e2 e3
        refine ⟨fun _ => st e2 e3, fun _ => ⟨t, ht, ⟨t1, t2⟩, ok_spend (rk := rk) e2 t1 t2 (fun y2 c9 hy f2 f3 => ⟨fun _ => ⟨hv, hv, ?_⟩, fun _ => st f2 (e3.tr (f3.up (Nat.zero_le _)))⟩)⟩⟩
        rw [e1.nar]
        refine hK _ _ _ _ ?_ (f2.mark e1) ((e3.tr (f3.up (Nat.zero_le _))).tr (Rel.mark e1)) (fun _ b' e j' hj' ej' _ => ?_)
        · rw [upd2, if_pos ⟨rfl, rfl⟩]; exact e1
        · rw [hone b' e, ← nI_inj (by omega) (by rw [hone b' e] at hj'; omega) ej', upd2, if_pos ⟨rfl, rfl⟩]; exact e1.ne
      exact ok_form hw hL hq (fun e0 => ok_form0 hw hL hq e0 (by omega) (fun Q' hp K' => hA e0 b hb j hj rfl hp hz Q' K') h hKf) h hKf
  by_cases e0 : sK sh q = 0
  · exact ⟨hq, ⟨fun e => ⟨hq, fun _ => own, fun hne => absurd rfl hne⟩, fun e => absurd (e0.symm.trans e) (by decide), fun e => absurd (e0.symm.trans e) (by decide), fun e => absurd (e0.symm.trans e) (by decide), fun e => absurd (e0.symm.trans e) (by decide), fun e => absurd (e0.symm.trans e) (by decide), fun e => absurd (e0.symm.trans e) (by decide), fun e => absurd (e0.symm.trans e) (by decide), fun e => absurd (e0.symm.trans e) (by decide)⟩⟩
  · refine ⟨hq, ok_source hw hq (fun z hz => ⟨fun _ => own, fun hne => ok_place hw hq (fun r => ?_)⟩)⟩
    rcases hz with ⟨e, -⟩ | ⟨z1, z2⟩
    · exact absurd (by rw [e]) hne
    · exact ⟨z1, (hL z z1 z2 _ _ _ _ _ h (fun y c a l f1 f2 f3 => hK _ _ _ _ f1 f2 f3 (fun e => absurd e e0))).2⟩
/-- with fuel 3 for each rank, reach and work of a list end, and keep what is kept -/
theorem ok_PG (hw : Wf sh rk) : ∀ (r z : Nat), LZ sh z → rk z = r → ∀ d, 3 * r + 3 ≤ d →
    (∀ (ci ai : Nat → Nat → Int32) (al : Nat → Nat → Int64) (k : Int32) (Q : Int32 → SCTy), CI sh ci ai → Kt sh rk (rk z + 1) ci ai Q → (PG sh d).1 ci ai al z k Q) ∧
    (∀ (ci ai : Nat → Nat → Int32) (al : Nat → Nat → Int64) (k : Int32) (Q : Int32 → SCTy), CI sh ci ai → KtW sh rk z k ci ai Q → (PG sh d).2 ci ai al z k Q) := by
  intro r
  induction r using Nat.strongRecOn with
  | ind r ih =>
    intro z hz hr
    have low : ∀ d, 3 * r ≤ d → Low sh rk (rk z) (PG sh d).1 (PG sh d).2 := by
      intro d hd y hy hyr ci ai al k Q h hK
      have hi := ih (rk y) (by omega) y hy rfl d (by omega)
      exact ⟨hi.1 _ _ _ _ _ h (fun x c a l e1 e2 e3 => hK _ _ _ _ e1 e2 (e3.up hyr)), hi.2 _ _ _ _ _ h (fun x c a l e1 e2 e3 _ => hK _ _ _ _ e1 e2 (e3.up (Nat.le_of_lt hyr)))⟩
    obtain ⟨b, hb, b1, b2, b3⟩ := (hw z hz).2.2.1
    have hone : ∀ b', sR sh z 2 = some b' → b' = b := fun b' e => Option.some.inj (e.symm.trans hb)
    have w1 : ∀ d, 3 * r + 1 ≤ d → ∀ (ci ai : Nat → Nat → Int32) (al : Nat → Nat → Int64) (j : Nat) (Q : Int32 → SCTy), j < sN sh b → ¬ ai b j = 0 → CI sh ci ai → KtW sh rk z (nI j) ci ai Q → (PG sh d).2 ci ai al z (nI j) Q := by
      intro d hd ci ai al j Q hj hm h hK
      obtain ⟨d, rfl⟩ : ∃ d', d = d' + 1 := ⟨d - 1, by omega⟩
      refine ok_work hw (low d (by omega)) hz (fun _ b' e j' hj' ej _ h0 => ?_) h hK
      rw [hone b' e, ← nI_inj (by omega) (by rw [hone b' e] at hj'; omega) ej] at h0
      exact absurd h0 hm
    have w2 : sK sh z = 0 → ∀ d, 3 * r + 2 ≤ d → ∀ (ci ai : Nat → Nat → Int32) (al : Nat → Nat → Int64) (j : Nat) (Q : Int32 → SCTy), j < sN sh b → (j = 0 ∨ ¬ ai b (j - 1) = 0 ∨ ¬ ai b j = 0) → CI sh ci ai → KtW sh rk z (nI j) ci ai Q → (PG sh d).2 ci ai al z (nI j) Q := by
      intro e0 d hd ci ai al j Q hj hm h hK
      obtain ⟨d, rfl⟩ : ∃ d', d = d' + 1 := ⟨d - 1, by omega⟩
      refine ok_work hw (low d (by omega)) hz (fun _ b' e j' hj' ej hp h0 Q' K' => ?_) h hK
      have ejj : j = j' := nI_inj (by omega) (by rw [hone b' e] at hj'; omega) ej
      subst ejj
      rw [hone b' e] at h0
      obtain ⟨i, rfl⟩ : ∃ i, j = i + 1 := ⟨j - 1, by omega⟩
      have hm' : ¬ ai b i = 0 := by
        rcases hm with hm | hm | hm
        · omega
        · exact hm
        · exact absurd h0 hm
      exact ok_aheadC hw hz e0 hb b3 (w1 d (by omega)) (by omega) hm' h K'
    intro d hd
    obtain ⟨d, rfl⟩ : ∃ d', d = d' + 1 := ⟨d - 1, by omega⟩
    refine ⟨fun ci ai al k Q h hK => ok_reach hw (low d (by omega)) hz h hK, fun ci ai al k Q h hK => ok_work hw (low d (by omega)) hz (fun e0 b' e j' hj' ej hp h0 Q' K' => ?_) h hK⟩
    rw [hone b' e] at hj'
    obtain ⟨i, rfl⟩ : ∃ i, j' = i + 1 := ⟨j' - 1, by omega⟩
    exact ok_aheadB hw hz e0 hb b3 (w2 e0 d (by omega)) (by omega) h K'
theorem ok_R (hw : Wf sh rk) (hq : LZ sh q) (h : CI sh ci ai) (hK : Kt sh rk 24 ci ai Q) : (PG sh 100).1 ci ai al q k Q := by
  have hr := (hw q hq).2.2.2.2.2.2.2.2.2
  exact (ok_PG hw _ q hq rfl 100 (by omega)).1 _ _ _ _ _ h (fun x c a l e1 e2 e3 => hK _ _ _ _ e1 e2 (e3.up hr))
theorem ok_W (hw : Wf sh rk) (hq : LZ sh q) (h : CI sh ci ai) (hK : Kt sh rk 24 ci ai Q) : (PG sh 100).2 ci ai al q k Q := by
  have hr := (hw q hq).2.2.2.2.2.2.2.2.2
  exact (ok_PG hw _ q hq rfl 100 (by omega)).2 _ _ _ _ _ h (fun x c a l e1 e2 e3 _ => hK _ _ _ _ e1 e2 (e3.up (Nat.le_of_lt hr)))
end CM
