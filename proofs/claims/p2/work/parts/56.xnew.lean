/-- a list z under construction, over the shape S0 -/
def Nw (S0 : Sh) (z K : Nat) (sh : Sh) (ci0 ai0 ci ai : Nat → Nat → Int32) : Prop :=
  z ∉ sL S0 ∧ z ∈ sL sh ∧ sK sh z = K ∧
  (∀ b, b ∈ sL S0 → b ∈ sL sh ∧ sK sh b = sK S0 b ∧ sN sh b = sN S0 b ∧ sR sh b = sR S0 b ∧ sQ sh b = sQ S0 b ∧ ci b = ci0 b ∧ ai b = ai0 b) ∧
  (∀ b, b ∈ sL sh → b ∉ sL S0 → b ≠ z → sK sh b = 20 ∨ sK sh b = 22 ∨ (sK sh b = 21 ∧ ∀ j, m8 (ai b j))) ∧
  ci z 3 = 0 ∧ ci z 4 = 0
def F5 (sh : Sh) (z t : Nat) : Prop := sR sh z 0 = some t ∧ (∃ b, sR sh z 1 = some b ∧ b ∈ sL sh ∧ sK sh b = 22 ∧ sN sh b ≤ 400) ∧ (∃ b, sR sh z 2 = some b ∧ b ∈ sL sh ∧ sK sh b = 21 ∧ sN sh b ≤ 400)
/-- what the new list's own fields are, once it is made -/
def Wz (S0 : Sh) (sh : Sh) (z K : Nat) (ai0 ci : Nat → Nat → Int32) : Prop :=
  (∀ k, lref K k → ∀ y, sR sh z k = some y → LZ S0 y) ∧
  (¬ K = 0 → ¬ K = 3 → ∃ y, sR sh z 5 = some y) ∧
  (K = 3 → r8 (ci z 6) ∧ ∃ b, sR sh z 5 = some b ∧ b ∈ sL S0 ∧ sK S0 b = 21 ∧ sN S0 b ≤ 400 ∧ ∀ j, j < sN S0 b → ¬ ai0 b j = 0) ∧
  (K = 6 → ∀ b, sR sh z 6 = some b → b ∈ sL sh ∧ sK sh b = 20 ∧ sN sh b ≤ 400) ∧
  (K = 8 → ∃ b, sR sh z 6 = some b ∧ b ∈ sL sh ∧ sK sh b = 20 ∧ sN sh b ≤ 400) ∧
  (K = 9 → ∃ b, sR sh z 8 = some b ∧ b ∈ sL sh ∧ sK sh b = 20 ∧ sN sh b ≤ 400)
section XN
variable {S0 sh : Sh} {rk : Nat → Nat} {ci0 ai0 ci ai ai' : Nat → Nat → Int32} {al : Nat → Nat → Int64} {q z K n m t : Nat} {pu x : Int32}
theorem le_eq {a b c : Nat} (h : a = b) (h2 : b ≤ c) : a ≤ c := h ▸ h2
theorem va_self {α : Type} {f : Nat → α} {q : Nat} {x : α} : va_up f q x q = x := by simp only [va_up, if_true]
theorem sR_z {k j : Nat} {r : Option Nat} : sR (shR sh z k r) z j = if j = k then r else sR sh z j := by
  show va_up (sR sh) z (va_up (sR sh z) k r) z j = _
  rw [va_self]; rfl
theorem Nw.O (hz : z ∉ sL S0) : Nw S0 z K (shO S0 z K) ci0 ai0 (va_up ci0 z (fun _ => 0)) ai0 := by
  refine ⟨hz, List.mem_append_right _ (List.mem_singleton.mpr rfl), va_self, fun b hb => ?_, fun b hb hb0 hbz => ?_, by rw [va_self], by rw [va_self]⟩
  · have hne : b ≠ z := fun e => hz (e ▸ hb)
    exact ⟨List.mem_append_left _ hb, va_up_ne _ _ hne, rfl, va_up_ne _ _ hne, rfl, va_up_ne _ _ hne, rfl⟩
  · rcases List.mem_append.mp hb with h | h
    · exact absurd h hb0
    · exact absurd (List.mem_singleton.mp h) hbz
theorem Nw.N {b kk ln : Nat} {cA : ClassId} (h : Nw S0 z K sh ci0 ai0 ci ai) (hb : b ∉ sL sh) (hai : ∀ c, c ≠ b → ai' c = ai c) (hk : kk = 20 ∨ kk = 22 ∨ (kk = 21 ∧ ∀ j, m8 (ai' b j))) : Nw S0 z K (shN sh b kk ln cA) ci0 ai0 ci ai' := by
  obtain ⟨h1, h2, h3, h4, h5, h6⟩ := h
  refine ⟨h1, List.mem_append_left _ h2, ?_, fun c hc => ?_, fun c hc hc0 hcz => ?_, h6⟩
  · have hne : z ≠ b := fun e => hb (e ▸ h2)
    exact (va_up_ne _ _ hne).trans h3
  · obtain ⟨c1, c2, c3, c4, c5, c6, c7⟩ := h4 c hc
    have hne : c ≠ b := fun e => hb (e ▸ c1)
    exact ⟨List.mem_append_left _ c1, (va_up_ne _ _ hne).trans c2, (va_up_ne _ _ hne).trans c3, c4, (va_up_ne _ _ hne).trans c5, c6, (hai c hne).trans c7⟩
  · by_cases e : c = b
    · have ek : sK (shN sh b kk ln cA) c = kk := by rw [e]; exact va_self
      rw [ek, e]; exact hk
    · have ek : sK (shN sh b kk ln cA) c = sK sh c := va_up_ne _ _ e
      rw [ek, hai c e]
      rcases List.mem_append.mp hc with h | h
      · exact h5 c h hc0 hcz
      · exact absurd (List.mem_singleton.mp h) e
theorem Nw.R {k : Nat} {r : Option Nat} (h : Nw S0 z K sh ci0 ai0 ci ai) : Nw S0 z K (shR sh z k r) ci0 ai0 ci ai := by
  obtain ⟨h1, h2, h3, h4, h5, h6⟩ := h
  refine ⟨h1, h2, h3, fun c hc => ?_, h5, h6⟩
  obtain ⟨c1, c2, c3, c4, c5, c6, c7⟩ := h4 c hc
  have hne : c ≠ z := fun e => h1 (e ▸ hc)
  exact ⟨c1, c2, c3, (va_up_ne _ _ hne).trans c4, c5, c6, c7⟩
theorem Nw.J {k : Nat} {y : Int64} (h : Nw S0 z K sh ci0 ai0 ci ai) : Nw S0 z K (shJ sh z k y) ci0 ai0 ci ai := h
theorem Nw.F {j : Nat} (h : Nw S0 z K sh ci0 ai0 ci ai) (hj : j ≠ 3 ∧ j ≠ 4) : Nw S0 z K sh ci0 ai0 (va_up ci z (va_up (ci z) j x)) ai := by
  obtain ⟨h1, h2, h3, h4, h5, h6, h7⟩ := h
  refine ⟨h1, h2, h3, fun c hc => ?_, h5, ?_, ?_⟩
  · obtain ⟨c1, c2, c3, c4, c5, c6, c7⟩ := h4 c hc
    have hne : c ≠ z := fun e => h1 (e ▸ hc)
    exact ⟨c1, c2, c3, c4, c5, (va_up_ne _ _ hne).trans c6, c7⟩
  · rw [up2 (fun e => hj.1 e.2.symm)]; exact h6
  · rw [up2 (fun e => hj.2 e.2.symm)]; exact h7
theorem F5.R {k : Nat} {r : Option Nat} (h : F5 sh z t) (hk : 2 < k) : F5 (shR sh z k r) z t := by
  have e : ∀ j, j ≤ 2 → sR (shR sh z k r) z j = sR sh z j := fun j hj => by rw [sR_z, if_neg (by omega)]
  unfold F5
  rw [e 0 (by decide), e 1 (by decide), e 2 (by decide)]
  exact h
theorem F5.N {b kk ln : Nat} {cA : ClassId} (h : F5 sh z t) (hb : b ∉ sL sh) : F5 (shN sh b kk ln cA) z t := by
  obtain ⟨h1, ⟨b1, c1, c2, c3, c4⟩, ⟨b2, d1, d2, d3, d4⟩⟩ := h
  have n1 : b1 ≠ b := fun e => hb (e ▸ c2)
  have n2 : b2 ≠ b := fun e => hb (e ▸ d2)
  exact ⟨h1, ⟨b1, c1, List.mem_append_left _ c2, (va_up_ne _ _ n1).trans c3, le_eq (va_up_ne _ _ n1) c4⟩, ⟨b2, d1, List.mem_append_left _ d2, (va_up_ne _ _ n2).trans d3, le_eq (va_up_ne _ _ n2) d4⟩⟩
/-- the start of every constructor: its own rows -/
theorem ok_init5 {b : Nat} {Q : Sh → SCTy} (hK : isZ K) (h : Nw S0 z K sh ci0 ai0 ci ai) (hb : b ∈ sL sh) (hk : sK sh b = 22) (hl : sN sh b ≤ 400)
    (hQ : ∀ sh' ai', Nw S0 z K sh' ci0 ai0 ci ai' → F5 sh' z t → (∀ k, 2 < k → sR sh' z k = sR sh z k) → Q sh' ci ai' al) : P_X5_init sh ci ai al z t b Q := by
  have hz : isZ (sK sh z) := by rw [h.2.2.1]; exact hK
  refine ⟨⟨h.2.1, hz⟩, ?_⟩
  rintro _ rfl
  refine ⟨⟨h.2.1, hz⟩, ?_⟩
  rintro _ rfl
  refine ⟨⟨hb, hk⟩, nI_pos (show sN sh b < 2 ^ 31 by omega), ?_, ?_⟩
  · show (nI (sN sh b)).toNatClampNeg ≤ 400
    rw [nI_clamp (by omega)]; exact hl
  rintro c cA _ hc rfl
  have hc' : c ∉ sL sh := hc
  have e1 : z ≠ c := fun e => hc' (e ▸ h.2.1)
  have e2 : b ≠ c := fun e => hc' (e ▸ hb)
  have N2 : Nw S0 z K (shN (shR (shR sh z 0 (some t)) z 1 (some b)) c 21 (nI (sN sh b)).toNatClampNeg cA) ci0 ai0 ci (va_up ai c (fun _ => 0)) := (h.R.R).N hc (fun d hd => va_up_ne _ _ hd) (Or.inr (Or.inr ⟨rfl, fun j => by rw [va_self]; exact ⟨0, by decide, rfl⟩⟩))
  have hz2 : isZ (sK (shN (shR (shR sh z 0 (some t)) z 1 (some b)) c 21 (nI (sN sh b)).toNatClampNeg cA) z) := by rw [N2.2.2.1]; exact hK
  refine ⟨⟨N2.2.1, hz2⟩, ?_⟩
  rintro _ rfl
  refine hQ _ _ N2.R ?_ (fun k hk2 => ?_)
  · refine ⟨?_, ⟨b, ?_, List.mem_append_left _ hb, (va_up_ne _ _ e2).trans hk, le_eq (va_up_ne _ _ e2) hl⟩, ⟨c, ?_, List.mem_append_right _ (List.mem_singleton.mpr rfl), va_self, le_eq va_self ?_⟩⟩
    · rw [sR_z, if_neg (by decide)]
      show sR (shR (shR sh z 0 (some t)) z 1 (some b)) z 0 = _
      rw [sR_z, if_neg (by decide), sR_z, if_pos rfl]
    · rw [sR_z, if_neg (by decide)]
      show sR (shR (shR sh z 0 (some t)) z 1 (some b)) z 1 = _
      rw [sR_z, if_pos rfl]
    · rw [sR_z, if_pos rfl]
    · show (nI (sN sh b)).toNatClampNeg ≤ 400
      rw [nI_clamp (by omega)]; exact hl
  · rw [sR_z, if_neg (by omega)]
    show sR (shR (shR sh z 0 (some t)) z 1 (some b)) z k = _
    rw [sR_z, if_neg (by omega), sR_z, if_neg (by omega)]
theorem ok_own {ln : Nat} {Q : Sh → SCTy} (hK : isZ K) (hl : ln ≤ 400) (h : Nw S0 z K sh ci0 ai0 ci ai)
    (hQ : ∀ sh' ai' al', Nw S0 z K sh' ci0 ai0 ci ai' → F5 sh' z t → Q sh' ci ai' al') : ∀ (q1 : Nat) (cA1 : ClassId) (sh2 : Sh), q1 ∉ sL sh → sh2 = shN sh q1 22 ln cA1 → (z ∈ sL sh2 ∧ isZ (sK sh2 z)) ∧ P_X5_init sh2 ci ai (va_up al q1 (fun _ => 0)) z t q1 Q := by
  rintro b cA _ hb rfl
  have N2 : Nw S0 z K (shN sh b 22 ln cA) ci0 ai0 ci ai := h.N hb (fun _ _ => rfl) (Or.inr (Or.inl rfl))
  refine ⟨⟨N2.2.1, by rw [N2.2.2.1]; exact hK⟩, ok_init5 hK N2 (List.mem_append_right _ (List.mem_singleton.mpr rfl)) va_self (le_eq va_self hl) (fun sh' ai' h1 h2 _ => hQ _ _ _ h1 h2)⟩
/-- a finished list is added -/
theorem Nw.wf (H : Wf S0 rk) (h : Nw S0 z K sh ci0 ai0 ci ai) (hr : ∀ y, LZ S0 y → rk y < n) (hn : n < 24) (ht : t ∈ sL S0 ∧ sK S0 t = 5) (h5 : F5 sh z t) (hz : Wz S0 sh z K ai0 ci) : Wf sh (va_up rk z n) := by
  obtain ⟨h1, h2, h3, h4, h6, h7⟩ := h
  have lift : ∀ {b kk : Nat}, b ∈ sL S0 → sK S0 b = kk → b ∈ sL sh ∧ sK sh b = kk := fun hb hk => ⟨(h4 _ hb).1, (h4 _ hb).2.1.trans hk⟩
  have liftN : ∀ {b kk : Nat}, b ∈ sL S0 → sK S0 b = kk → sN S0 b ≤ 400 → b ∈ sL sh ∧ sK sh b = kk ∧ sN sh b ≤ 400 := fun hb hk hl => ⟨(h4 _ hb).1, (h4 _ hb).2.1.trans hk, by rw [(h4 _ hb).2.2.1]; exact hl⟩
  have liftZ : ∀ {y : Nat}, LZ S0 y → LZ sh y ∧ va_up rk z n y = rk y := fun hy => ⟨⟨(h4 _ hy.1).1, by rw [(h4 _ hy.1).2.1]; exact hy.2⟩, va_up_ne _ _ (fun e => h1 (e ▸ hy.1))⟩
  intro y hy
  by_cases e : y = z
  · subst e
    rw [h3, va_self]
    obtain ⟨z1, z2, z3, z4, z5, z6⟩ := hz
    refine ⟨⟨t, h5.1, lift ht.1 ht.2⟩, h5.2.1, h5.2.2, fun k hk w hw => ?_, z2, fun e3 => ?_, z4, z5, z6, hn⟩
    · have := z1 k hk w hw
      exact ⟨(liftZ this).1, by rw [(liftZ this).2]; exact hr w this⟩
    · obtain ⟨-, b, b1, b2, b3, b4, -⟩ := z3 e3
      exact ⟨b, b1, liftN b2 b3 b4⟩
  · have hy0 : y ∈ sL S0 := by
      by_cases h0 : y ∈ sL S0
      · exact h0
      · have hzy := hy.2
        rcases h6 y hy.1 h0 e with hk | hk | ⟨hk, -⟩ <;> (rw [hk] at hzy; exact absurd hzy (by decide))
    obtain ⟨c1, c2, c3, c4, c5, c6, c7⟩ := h4 y hy0
    have hyz : LZ S0 y := ⟨hy0, by rw [← c2]; exact hy.2⟩
    rw [c2, c4, (liftZ hyz).2]
    obtain ⟨⟨a, a1, a2, a3⟩, ⟨b, b1, b2, b3, b4⟩, ⟨d, d1, d2, d3, d4⟩, w4, w5, w6, w7, w8, w9, w10⟩ := H y hyz
    refine ⟨⟨a, a1, lift a2 a3⟩, ⟨b, b1, liftN b2 b3 b4⟩, ⟨d, d1, liftN d2 d3 d4⟩, fun k hk w hw => ?_, w5, fun e3 => ?_, fun e6 g hg => ?_, fun e8 => ?_, fun e9 => ?_, w10⟩
    · obtain ⟨f1, f2⟩ := w4 k hk w hw
      exact ⟨(liftZ f1).1, by rw [(liftZ f1).2]; exact f2⟩
    · obtain ⟨g, g1, g2, g3, g4⟩ := w6 e3
      exact ⟨g, g1, liftN g2 g3 g4⟩
    · obtain ⟨g2, g3, g4⟩ := w7 e6 g hg
      exact liftN g2 g3 g4
    · obtain ⟨g, g1, g2, g3, g4⟩ := w8 e8
      exact ⟨g, g1, liftN g2 g3 g4⟩
    · obtain ⟨g, g1, g2, g3, g4⟩ := w9 e9
      exact ⟨g, g1, liftN g2 g3 g4⟩
theorem Nw.cin (hK : isZ K) (H : Wf S0 rk) (H2 : CI S0 ci0 ai0) (h : Nw S0 z K sh ci0 ai0 ci ai) (hz : Wz S0 sh z K ai0 ci) : CI sh ci ai := by
  obtain ⟨h1, h2, h3, h4, h6, h7, h8⟩ := h
  have old : ∀ y, y ∈ sL sh → ¬ y = z → isZ (sK sh y) → y ∈ sL S0 := fun y hy e hzy => by
    by_cases h0 : y ∈ sL S0
    · exact h0
    · rcases h6 y hy h0 e with hk | hk | ⟨hk, -⟩ <;> (rw [hk] at hzy; exact absurd hzy (by decide))
  refine ⟨fun b hb hk j => ?_, fun y hy hk f hf hfk j hj => ?_, fun y hy hk => ?_, fun y hy => ?_⟩
  · by_cases h0 : b ∈ sL S0
    · rw [(h4 b h0).2.2.2.2.2.2]; exact H2.1 b h0 ((h4 b h0).2.1.symm.trans hk) j
    · by_cases e : b = z
      · rw [e, h3] at hk
        rw [hk] at hK
        exact absurd hK (by decide)
      · rcases h6 b hb h0 e with hk2 | hk2 | ⟨-, hm⟩
        · rw [hk2] at hk; cases hk
        · rw [hk2] at hk; cases hk
        · exact hm j
  · by_cases e : y = z
    · rw [e, h3] at hk
      obtain ⟨-, b, b1, b2, b3, b4, b5⟩ := hz.2.2.1 hk
      rw [e, b1] at hf
      have eb := Option.some.inj hf
      rw [← eb, (h4 b b2).2.2.1] at hj
      rw [← eb, (h4 b b2).2.2.2.2.2.2]
      exact b5 j hj
    · have hy0 := old y hy e (by rw [hk]; decide)
      have hk0 : sK S0 y = 3 := (h4 y hy0).2.1.symm.trans hk
      obtain ⟨b, b1, b2, b3, b4⟩ := (H y ⟨hy0, by rw [hk0]; decide⟩).2.2.2.2.2.1 hk0
      rw [(h4 y hy0).2.2.2.1, b1] at hf
      have eb := Option.some.inj hf
      rw [← eb, (h4 b b2).2.2.1] at hj
      rw [← eb, (h4 b b2).2.2.2.2.2.2]
      exact H2.2.1 y hy0 hk0 b b1 b3 j hj
  · by_cases e : y = z
    · rw [e, h3] at hk
      rw [e]; exact (hz.2.2.1 hk).1
    · have hy0 := old y hy e (by rw [hk]; decide)
      rw [(h4 y hy0).2.2.2.2.2.1]; exact H2.2.2.1 y hy0 ((h4 y hy0).2.1.symm.trans hk)
  · by_cases e : y = z
    · rw [e]; exact ⟨0, 0, h7, h8, by decide, by decide, fun _ => by decide⟩
    · have hy0 := old y hy.1 e hy.2
      rw [(h4 y hy0).2.2.2.2.2.1]; exact H2.2.2.2 y ⟨hy0, by rw [← (h4 y hy0).2.1]; exact hy.2⟩
theorem Nw.add {Q : Int32 → Sh → SCTy} (hK : isZ K) (H : XI S0 rk q ci0 ai0 n m pu) (h : Nw S0 z K sh ci0 ai0 ci ai) (hn : n < 24) (ht : t ∈ sL S0 ∧ sK S0 t = 5) (h5 : F5 sh z t) (hz : Wz S0 sh z K ai0 ci)
    (hQ : ∀ sh' rk' ci' ai', XI sh' rk' q ci' ai' (n + 1) m pu → Q (nI n) sh' ci' ai' al) : (q ∈ sL sh ∧ sK sh q = 10) ∧ P_X11_addList sh ci ai al q z Q := by
  have hw := Nw.wf H.wf h H.rank hn ht h5 hz
  have hc := Nw.cin hK H.wf H.num h hz
  obtain ⟨h1, h2, h3, h4, h6, h7⟩ := h
  obtain ⟨o1, o2, o3, o4, o5, o6, o7⟩ := h4 q H.own.1
  have own : q ∈ sL sh ∧ sK sh q = 10 := ⟨o1, o2.trans H.own.2⟩
  have hzl : LZ sh z := ⟨h2, by rw [h3]; exact hK⟩
  obtain ⟨p, p1, p2, p3, p4, p5⟩ := H.pile
  obtain ⟨q1, q2, q3, q4, q5, -⟩ := h4 p p2
  refine ⟨own, own, p, by rw [o4]; exact p1, ⟨q1, q2.trans p3⟩, fun hle => ?_, fun _ => ⟨hzl, ?_, ?_⟩⟩
  · rw [q3, p4, o6, H.made] at hle
    exact absurd hle (nI_ge hn (by decide))
  · rw [q3, p4, o6, H.made]; exact vp_in_nI hn (by decide)
  rintro _ rfl
  refine ⟨own, ?_⟩
  have e4 : ci q 4 = nI n := by rw [o6]; exact H.made
  rw [e4, nI_clamp (by omega), nIs]
  refine hQ _ (va_up rk z n) _ _ ⟨hw, hc.obj own.2, own, ?_, ?_, ?_, ?_, ?_, by omega, H.m100, ?_, ?_, ?_⟩
  · obtain ⟨a, a1, a2, a3⟩ := H.met
    exact ⟨a, (congrFun o4 0).trans a1, (h4 a a2).1, (h4 a a2).2.1.trans a3⟩
  · refine ⟨p, (congrFun o4 1).trans p1, q1, q2.trans p3, q3.trans p4, fun i hi => ?_⟩
    show ∃ w, va_up (sQ sh) p (va_up (sQ sh p) n (some z)) p i = some w ∧ LZ sh w
    rw [va_self]
    by_cases e : i = n
    · rw [e, va_self]; exact ⟨z, rfl, hzl⟩
    · obtain ⟨w, w1, w2⟩ := p5 i (by omega)
      rw [va_up_ne _ _ e, q5]
      exact ⟨w, w1, (h4 w w2.1).1, by rw [(h4 w w2.1).2.1]; exact w2.2⟩
  · obtain ⟨a, a1, a2, a3, a4⟩ := H.row
    exact ⟨a, (congrFun o4 2).trans a1, (h4 a a2).1, (h4 a a2).2.1.trans a3, (h4 a a2).2.2.1.trans a4⟩
  · obtain ⟨a, a1, a2, a3, a4, a5⟩ := H.fate
    exact ⟨a, (congrFun o4 3).trans a1, (h4 a a2).1, (h4 a a2).2.1.trans a3, (h4 a a2).2.2.1.trans a4, fun j hj => by rw [(h4 a a2).2.2.2.2.2.2]; exact a5 j hj⟩
  · intro y hy
    by_cases e : y = z
    · rw [e, va_self]; exact Nat.lt_succ_self _
    · rw [va_up_ne _ _ e]
      have hy1 : y ∈ sL sh := hy.1
      have hy2 : isZ (sK sh y) := hy.2
      have hy0 : y ∈ sL S0 := by
        by_cases h0 : y ∈ sL S0
        · exact h0
        · rcases h6 y hy1 h0 e with hk | hk | ⟨hk, -⟩ <;> (rw [hk] at hy2; exact absurd hy2 (by decide))
      exact Nat.lt_succ_of_lt (H.rank y ⟨hy0, by rw [← (h4 y hy0).2.1]; exact hy2⟩)
  · exact up_same
  · rw [up2 (fun e => absurd e.2 (by decide)), o6]; exact H.long
  · rw [up2 (fun e => absurd e.2 (by decide)), o6]; exact H.purse
end XN
