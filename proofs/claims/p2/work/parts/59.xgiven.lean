section XG
variable {sh : Sh} {rk : Nat → Nat} {ci ai ai' : Nat → Nat → Int32} {al : Nat → Nat → Int64} {q n m b kk ln : Nat} {cA : ClassId} {pu p0 p1 x : Int32} {y1 y2 : Int64} {X : String → Prop}
theorem arr_new : b ∈ sL (shN sh b kk ln cA) ∧ sK (shN sh b kk ln cA) b = kk ∧ sN (shN sh b kk ln cA) b = ln := ⟨List.mem_append_right _ (List.mem_singleton.mpr rfl), va_self, va_self⟩
theorem arr_old {c : Nat} (hb : b ∉ sL sh) (hc : c ∈ sL sh) : c ∈ sL (shN sh b kk ln cA) ∧ sK (shN sh b kk ln cA) c = sK sh c ∧ sN (shN sh b kk ln cA) c = sN sh c ∧ sQ (shN sh b kk ln cA) c = sQ sh c := by
  have hne : c ≠ b := fun e => hb (e ▸ hc)
  exact ⟨List.mem_append_left _ hc, va_up_ne _ _ hne, va_up_ne _ _ hne, va_up_ne _ _ hne⟩
theorem arr_LZ {c : Nat} (hb : b ∉ sL sh) (hk : ¬ isZ kk) (hc : LZ (shN sh b kk ln cA) c) : LZ sh c := by
  obtain ⟨h1, h2⟩ := hc
  by_cases e : c = b
  · rw [e, arr_new.2.1] at h2; exact absurd h2 hk
  · have hc : c ∈ sL sh := by
      rcases List.mem_append.mp h1 with h | h
      · exact h
      · exact absurd (List.mem_singleton.mp h) e
    exact ⟨hc, by rw [(arr_old (kk := kk) (ln := ln) (cA := cA) hb hc).2.1] at h2; exact h2⟩
theorem LZ.N {c : Nat} (hb : b ∉ sL sh) (hc : LZ sh c) : LZ (shN sh b kk ln cA) c := ⟨(arr_old hb hc.1).1, by rw [(arr_old hb hc.1).2.1]; exact hc.2⟩
theorem Wf.N (H : Wf sh rk) (hb : b ∉ sL sh) (hk : ¬ isZ kk) : Wf (shN sh b kk ln cA) rk := by
  intro y hy
  have hy0 := arr_LZ hb hk hy
  rw [(arr_old (kk := kk) (ln := ln) (cA := cA) hb hy0.1).2.1]
  have lift : ∀ {c k9 : Nat}, c ∈ sL sh → sK sh c = k9 → c ∈ sL (shN sh b kk ln cA) ∧ sK (shN sh b kk ln cA) c = k9 := fun hc h9 => ⟨(arr_old hb hc).1, (arr_old hb hc).2.1.trans h9⟩
  have liftN : ∀ {c k9 : Nat}, c ∈ sL sh → sK sh c = k9 → sN sh c ≤ 400 → c ∈ sL (shN sh b kk ln cA) ∧ sK (shN sh b kk ln cA) c = k9 ∧ sN (shN sh b kk ln cA) c ≤ 400 := fun hc h9 hl => ⟨(arr_old hb hc).1, (arr_old hb hc).2.1.trans h9, le_eq (arr_old hb hc).2.2.1 hl⟩
  obtain ⟨⟨a, a1, a2, a3⟩, ⟨b1, c1, c2, c3, c4⟩, ⟨d, d1, d2, d3, d4⟩, w4, w5, w6, w7, w8, w9, w10⟩ := H y hy0
  refine ⟨⟨a, a1, lift a2 a3⟩, ⟨b1, c1, liftN c2 c3 c4⟩, ⟨d, d1, liftN d2 d3 d4⟩, fun k hk w hw => ?_, w5, fun e3 => ?_, fun e6 g hg => ?_, fun e8 => ?_, fun e9 => ?_, w10⟩
  · obtain ⟨f1, f2⟩ := w4 k hk w hw
    exact ⟨f1.N hb, f2⟩
  · obtain ⟨g, g1, g2, g3, g4⟩ := w6 e3
    exact ⟨g, g1, liftN g2 g3 g4⟩
  · obtain ⟨g2, g3, g4⟩ := w7 e6 g hg
    exact liftN g2 g3 g4
  · obtain ⟨g, g1, g2, g3, g4⟩ := w8 e8
    exact ⟨g, g1, liftN g2 g3 g4⟩
  · obtain ⟨g, g1, g2, g3, g4⟩ := w9 e9
    exact ⟨g, g1, liftN g2 g3 g4⟩
theorem CI.N (H : Wf sh rk) (h : CI sh ci ai) (hb : b ∉ sL sh) (hk : kk = 22 ∨ kk = 21) (hai : ∀ c, c ≠ b → ai' c = ai c) (hm : kk = 21 → ∀ j, m8 (ai' b j)) : CI (shN sh b kk ln cA) ci ai' := by
  have hz : ¬ isZ kk := by rcases hk with rfl | rfl <;> decide
  have oldz : ∀ {y : Nat}, y ∈ sL (shN sh b kk ln cA) → isZ (sK (shN sh b kk ln cA) y) → y ∈ sL sh ∧ sK (shN sh b kk ln cA) y = sK sh y := fun h1 h2 => ⟨(arr_LZ hb hz ⟨h1, h2⟩).1, (arr_old hb (arr_LZ hb hz ⟨h1, h2⟩).1).2.1⟩
  refine ⟨fun c hc hc2 j => ?_, fun y hy hy3 f hf hfk j hj => ?_, fun y hy hy3 => ?_, fun y hy => h.2.2.2 y (arr_LZ hb hz hy)⟩
  · by_cases e : c = b
    · rw [e]; rw [e, arr_new.2.1] at hc2; exact hm hc2 j
    · have hc0 : c ∈ sL sh := by
        rcases List.mem_append.mp hc with h | h
        · exact h
        · exact absurd (List.mem_singleton.mp h) e
      rw [hai c e]; exact h.1 c hc0 ((arr_old (kk := kk) (ln := ln) (cA := cA) hb hc0).2.1.symm.trans hc2) j
  · obtain ⟨y1, y2⟩ := oldz hy (by rw [hy3]; decide)
    have y3 : sK sh y = 3 := y2.symm.trans hy3
    obtain ⟨g, g1, g2, g3, g4⟩ := (H y ⟨y1, by rw [y3]; decide⟩).2.2.2.2.2.1 y3
    have eb : g = f := Option.some.inj (g1.symm.trans hf)
    subst eb
    have hne : g ≠ b := fun e => hb (e ▸ g2)
    rw [(arr_old (kk := kk) (ln := ln) (cA := cA) hb g2).2.2.1] at hj
    rw [hai g hne]
    exact h.2.1 y y1 y3 g g1 g3 j hj
  · obtain ⟨y1, y2⟩ := oldz hy (by rw [hy3]; decide)
    exact h.2.2.1 y y1 (y2.symm.trans hy3)
theorem XI.N (H : XI sh rk q ci ai n m pu) (hb : b ∉ sL sh) (hk : kk = 22 ∨ kk = 21) (hai : ∀ c, c ≠ b → ai' c = ai c) (hm : kk = 21 → ∀ j, m8 (ai' b j)) : XI (shN sh b kk ln cA) rk q ci ai' n m pu := by
  have hz : ¬ isZ kk := by rcases hk with rfl | rfl <;> decide
  have lift : ∀ {c k9 : Nat}, c ∈ sL sh → sK sh c = k9 → c ∈ sL (shN sh b kk ln cA) ∧ sK (shN sh b kk ln cA) c = k9 := fun hc h9 => ⟨(arr_old hb hc).1, (arr_old hb hc).2.1.trans h9⟩
  refine ⟨H.wf.N hb hz, H.num.N H.wf hb hk hai hm, lift H.own.1 H.own.2, ?_, ?_, ?_, ?_, fun y hy => H.rank y (arr_LZ hb hz hy), H.n24, H.m100, H.made, H.long, H.purse⟩
  · obtain ⟨t, t1, t2, t3⟩ := H.met
    exact ⟨t, t1, lift t2 t3⟩
  · obtain ⟨p, h1, h2, h3, h4, h5⟩ := H.pile
    refine ⟨p, h1, (lift h2 h3).1, (lift h2 h3).2, (arr_old hb h2).2.2.1.trans h4, fun i hi => ?_⟩
    obtain ⟨z, z1, z2⟩ := h5 i hi
    exact ⟨z, by rw [(arr_old hb h2).2.2.2]; exact z1, z2.N hb⟩
  · obtain ⟨p, h1, h2, h3, h4⟩ := H.row
    exact ⟨p, h1, (lift h2 h3).1, (lift h2 h3).2, (arr_old hb h2).2.2.1.trans h4⟩
  · obtain ⟨p, h1, h2, h3, h4, h5⟩ := H.fate
    refine ⟨p, h1, (lift h2 h3).1, (lift h2 h3).2, (arr_old hb h2).2.2.1.trans h4, fun j hj => ?_⟩
    rw [hai p (fun e => hb (e ▸ h2))]; exact h5 j hj
theorem m8.fits (h : m8 x) : fits .byte (.int x) = true := by
  obtain ⟨n, h2, rfl⟩ := h
  rcases (show n = 0 ∨ n = 1 ∨ n = 2 ∨ n = 3 ∨ n = 4 ∨ n = 5 ∨ n = 6 ∨ n = 7 ∨ n = 8 by omega) with rfl | rfl | rfl | rfl | rfl | rfl | rfl | rfl | rfl <;> decide
theorem m8_0 : m8 0 := ⟨0, by decide, rfl⟩
/-- the row's numbers, copied -/
theorem ok_copyL {Q : Nat → Sh → SCTy} (H : XI sh rk q ci ai n m pu) (hb : b ∈ sL sh ∧ sK sh b = 22 ∧ sN sh b = 100) (hQ : ∀ c sh' al', XI sh' rk q ci ai n m pu → (c ∈ sL sh' ∧ sK sh' c = 22 ∧ sN sh' c ≤ 400) → Q c sh' ci ai al') : P_J7_copyOf_c38d5 sh ci ai al b (nI m) Q := by
  have hm := H.m100
  refine ⟨⟨hb.1, hb.2.1⟩, fun hne => ⟨nI_pos (by omega), by rw [nI_clamp (by omega)]; omega, ?_⟩, fun he => ⟨by rw [hb.2.2]; decide, ?_⟩⟩
  · have hlt : m < 100 := by
      rcases Nat.lt_or_ge m 100 with e | e
      · exact e
      · exact absurd (by rw [hb.2.2, show m = 100 by omega]) hne
    rintro c cA _ hc rfl
    have e := arr_old (kk := 22) (ln := (nI m).toNatClampNeg) (cA := cA) hc hb.1
    have e2 := arr_new (sh := sh) (b := c) (kk := 22) (ln := (nI m).toNatClampNeg) (cA := cA)
    have hl : (nI m).toNatClampNeg = m := nI_clamp (by omega)
    refine ⟨⟨e.1, e.2.1.trans hb.2.1⟩, fun _ => ⟨⟨e2.1, e2.2.1⟩, nI_pos (by omega), ?_, ?_, hQ _ _ _ (H.N hc (Or.inl rfl) (fun _ _ => rfl) (fun h => absurd h (by decide))) ⟨e2.1, e2.2.1, ?_⟩⟩, fun hn => absurd ?_ hn⟩
    · rw [e.2.2.1, hb.2.2, hl]; show 0 + m ≤ 100; omega
    · rw [e2.2.2, hl]; show 0 + m ≤ m; omega
    · rw [e2.2.2, hl]; omega
    · rw [e.2.2.1, hb.2.2]; exact nI_lt hlt (by decide)
  · rintro c _ hc rfl
    have e2 := arr_new (sh := sh) (b := c) (kk := 22) (ln := sN sh b) (cA := sA sh b)
    exact ⟨⟨e2.1, e2.2.1⟩, hQ _ _ _ (H.N hc (Or.inl rfl) (fun _ _ => rfl) (fun h => absurd h (by decide))) ⟨e2.1, e2.2.1, by rw [e2.2.2, hb.2.2]; decide⟩⟩
/-- the row's fates, copied -/
theorem ok_copyB {Q : Nat → Sh → SCTy} (H : XI sh rk q ci ai n m pu) (hb : b ∈ sL sh ∧ sK sh b = 21 ∧ sN sh b = 100) (hf : ∀ j, j < m → ¬ ai b j = 0) (hQ : ∀ c sh' ai', XI sh' rk q ci ai' n m pu → (∀ d, d ∈ sL sh → d ∈ sL sh' ∧ sK sh' d = sK sh d ∧ sN sh' d = sN sh d) → (c ∈ sL sh' ∧ sK sh' c = 21 ∧ sN sh' c ≤ 400) → (∀ j, j < sN sh' c → ¬ ai' c j = 0) → Q c sh' ci ai' al) : P_J7_copyOf_9075b sh ci ai al b (nI m) Q := by
  have hm := H.m100
  have hfit : ∀ i, fits .byte (.int (ai b i)) = true := fun i => (H.num.1 b hb.1 hb.2.1 i).fits
  refine ⟨⟨hb.1, hb.2.1⟩, fun hne => ⟨nI_pos (by omega), by rw [nI_clamp (by omega)]; omega, ?_⟩, fun he => ⟨by rw [hb.2.2]; decide, fun i _ => hfit i, ?_⟩⟩
  · have hlt : m < 100 := by
      rcases Nat.lt_or_ge m 100 with e | e
      · exact e
      · exact absurd (by rw [hb.2.2, show m = 100 by omega]) hne
    rintro c cA _ hc rfl
    have e := arr_old (kk := 21) (ln := (nI m).toNatClampNeg) (cA := cA) hc hb.1
    have e2 := arr_new (sh := sh) (b := c) (kk := 21) (ln := (nI m).toNatClampNeg) (cA := cA)
    have hl : (nI m).toNatClampNeg = m := nI_clamp (by omega)
    have hbc : b ≠ c := fun h => hc (h ▸ hb.1)
    have hbb : va_up ai c (fun _ => 0) b = ai b := va_up_ne _ _ hbc
    refine ⟨⟨e.1, e.2.1.trans hb.2.1⟩, fun _ => ⟨⟨e2.1, e2.2.1⟩, nI_pos (by omega), ?_, ?_, fun i _ => by rw [hbb]; exact hfit i, hQ _ _ _ (H.N hc (Or.inr rfl) (fun d hd => ?_) (fun _ j => ?_)) (fun d hd => ⟨(arr_old hc hd).1, (arr_old hc hd).2.1, (arr_old hc hd).2.2.1⟩) ⟨e2.1, e2.2.1, ?_⟩ (fun j hj => ?_)⟩, fun hn => absurd ?_ hn⟩
    · rw [e.2.2.1, hb.2.2, hl]; show 0 + m ≤ 100; omega
    · rw [e2.2.2, hl]; show 0 + m ≤ m; omega
    · rw [va_up_ne _ _ hd, va_up_ne _ _ hd]
    · rw [va_self, hbb, va_self]
      unfold va_cpy
      split
      · exact H.num.1 b hb.1 hb.2.1 _
      · exact m8_0
    · rw [e2.2.2, hl]; omega
    · rw [e2.2.2, hl] at hj
      rw [va_self, hbb, va_self]
      unfold va_cpy
      rw [hl, if_pos ⟨Nat.zero_le _, by show j < 0 + m; omega⟩]
      exact hf _ (by show 0 + (j - 0) < m; omega)
    · rw [e.2.2.1, hb.2.2]; exact nI_lt hlt (by decide)
  · have hm100 : m = 100 := nI_inj (by omega) (by decide) (by rw [he, hb.2.2])
    rintro c _ hc rfl
    have e2 := arr_new (sh := sh) (b := c) (kk := 21) (ln := sN sh b) (cA := sA sh b)
    refine ⟨⟨e2.1, e2.2.1⟩, hQ _ _ _ (H.N hc (Or.inr rfl) (fun d hd => va_up_ne _ _ hd) (fun _ j => ?_)) (fun d hd => ⟨(arr_old hc hd).1, (arr_old hc hd).2.1, (arr_old hc hd).2.2.1⟩) ⟨e2.1, e2.2.1, by rw [e2.2.2, hb.2.2]; decide⟩ (fun j hj => ?_)⟩
    · rw [va_self]; exact H.num.1 b hb.1 hb.2.1 j
    · rw [e2.2.2, hb.2.2] at hj
      rw [va_self]; exact hf j (by omega)
theorem mk_given {Q : Int32 → Sh → SCTy} (H : XI sh rk q ci ai n m pu) (hQ : n < 24 → KM q n 0 pu Q) (hU : ¬ n < 24 → X "java/lang/UnsupportedOperationException") : P_X11_given sh ci ai al q p0 Q X := by
  refine ⟨H.own, ok_checkRoom H (fun a4 => ?_) hU⟩
  obtain ⟨b, hb, b1, b2, b3⟩ := H.row
  refine ⟨b, hb, ?_⟩
  rw [H.long]
  refine ok_copyL H ⟨b1, b2, b3⟩ (fun c sh4 al4 H4 hc => ⟨H4.own, ?_⟩)
  obtain ⟨g, hg, g1, g2, g3, g4⟩ := H4.fate
  refine ⟨g, hg, ?_⟩
  rw [H4.long]
  refine ok_copyB H4 ⟨g1, g2, g3⟩ g4 (fun f sh9 ai9 H9 hold hf hf2 => ⟨H9.own, ?_⟩)
  have H10 : XI sh9 rk q (va_up ci q (va_up (ci q) 5 0)) ai9 n 0 pu := by
    obtain ⟨a, h1, h2, h3, h4, h5⟩ := H9.fate
    refine ⟨H9.wf, H9.num.obj H9.own.2, H9.own, H9.met, H9.pile, H9.row, ⟨a, h1, h2, h3, h4, fun j hj => absurd hj (Nat.not_lt_zero _)⟩, H9.rank, H9.n24, by decide, ?_, up_same, ?_⟩
    · rw [up2 (fun e => absurd e.2 (by decide))]; exact H9.made
    · rw [up2 (fun e => absurd e.2 (by decide))]; exact H9.purse
  have hc9 : c ∈ sL sh9 ∧ sK sh9 c = 22 ∧ sN sh9 c ≤ 400 := ⟨(hold c hc.1).1, (hold c hc.1).2.1.trans hc.2.1, le_eq (hold c hc.1).2.2 hc.2.2⟩
  rintro z _ hz rfl
  have N : Nw sh9 z 3 (shO sh9 z 3) (va_up ci q (va_up (ci q) 5 0)) ai9 (va_up (va_up ci q (va_up (ci q) 5 0)) z (fun _ => 0)) ai9 := Nw.O hz
  obtain ⟨t, t1, t2⟩ := H10.met
  obtain ⟨o1, o2, o3, o4, -⟩ := N.2.2.2.1 q H10.own.1
  refine ⟨⟨o1, o2.trans H10.own.2⟩, t, (congrFun o4 0).trans t1, fun _ => ⟨⟨N.2.1, N.2.2.1⟩, ?_⟩, fun _ => ⟨⟨N.2.1, N.2.2.1⟩, ?_⟩⟩
  · exact ok_X3 N hc9 hf hf2 r8_2 (fun sh' ci' ai' al' N' F' W' => Nw.add (by decide) H10 N' a4 t2 F' W' (fun sh2 rk2 ci2 ai2 h2 => hQ a4 _ _ _ _ _ h2))
  · exact ok_X3 N hc9 hf hf2 (r8_n (n := 4) (by decide) (by decide)) (fun sh' ci' ai' al' N' F' W' => Nw.add (by decide) H10 N' a4 t2 F' W' (fun sh2 rk2 ci2 ai2 h2 => hQ a4 _ _ _ _ _ h2))
/-- a byte array filled with ones -/
theorem ok_fill {Q : Sh → SCTy} (H : XI sh rk q ci ai n m pu) (hb : b ∈ sL sh ∧ sK sh b = 21 ∧ sN sh b ≤ 400) (hQ : ∀ ai', XI sh rk q ci ai' n m pu → (∀ j, j < sN sh b → ¬ ai' b j = 0) → Q sh ci ai' al) : P_J7_fill_031fb sh ci ai al b 1 Q := by
  have key : ∀ (f i : Nat) (ai : Nat → Nat → Int32), sN sh b - i < f → i ≤ sN sh b → XI sh rk q ci ai n m pu → (∀ j, j < i → ¬ ai b j = 0) → P_J7_fill_031fb_5 Q 0 f sh ci ai al b 1 (nI i) (nI (sN sh b)) := by
    intro f
    induction f with
    | zero => intro i ai hn; exact absurd hn (Nat.not_lt_zero _)
    | succ f ih =>
      intro i ai hn hi H hj
      refine ⟨fun hle => hQ _ H (fun j hj2 => hj j ?_), fun hlt => ?_⟩
      · rcases Nat.lt_or_ge i (sN sh b) with e | e
        · exact absurd hle (nI_ge e (by omega))
        · omega
      · have hlt' : i < sN sh b := by
          rcases Nat.lt_or_ge i (sN sh b) with e | e
          · exact e
          · exact absurd (nI_le e (by omega)) hlt
        refine ⟨⟨hb.1, hb.2.1⟩, vp_in_nI hlt' (by omega), ?_⟩
        show P_J7_fill_031fb_5 Q 0 f sh ci (va_up ai b (upd (ai b) (nI i).toNatClampNeg (vp_nar .byte 1))) al b 1 (nI i + 1) (nI (sN sh b))
        rw [nIs, nI_clamp (by omega), show vp_nar .byte 1 = 1 by decide]
        refine ih (i + 1) _ (by omega) (by omega) (H.ask (H.num.mark r8_1) (Rel.mark r8_1)) (fun j hj2 => ?_)
        rw [upd2]; split
        · decide
        · rename_i hne
          exact hj j (by have : ¬ j = i := fun e => hne ⟨rfl, e⟩; omega)
  exact ⟨⟨hb.1, hb.2.1⟩, _, key _ 0 _ (Nat.lt_succ_self _) (Nat.zero_le _) H (fun j hj => absurd hj (Nat.not_lt_zero _))⟩
theorem mk_count {Q : Int32 → Sh → SCTy} (H : XI sh rk q ci ai n m pu) (hQ : n < 24 → KM q n m pu Q) (hU : ¬ n < 24 → X "java/lang/UnsupportedOperationException") : P_X11_count sh ci ai al q y1 y2 Q X := by
  refine ⟨H.own, ok_checkRoom H (fun a4 => ?_) hU⟩
  rintro c cA _ hc rfl
  have H1 : XI (shN sh c 22 (400 : Int32).toNatClampNeg cA) rk q ci ai n m pu := H.N hc (Or.inl rfl) (fun _ _ => rfl) (fun h => absurd h (by decide))
  obtain ⟨c1, c2, c3⟩ := arr_new (sh := sh) (b := c) (kk := 22) (ln := (400 : Int32).toNatClampNeg) (cA := cA)
  generalize shN sh c 22 (400 : Int32).toNatClampNeg cA = s1 at H1 c1 c2 c3 ⊢
  have c4 : sN s1 c = 400 := c3
  have key : ∀ (f i : Nat) (al : Nat → Nat → Int64), 400 - i < f → i ≤ 400 → P_X11_count_14 Q q f s1 ci ai al y1 y2 c (nI i) := by
    intro f
    induction f with
    | zero => intro i al hn; exact absurd hn (Nat.not_lt_zero _)
    | succ f ih =>
      intro i al hn hi
      refine ⟨fun hle => ?_, fun hlt => ?_⟩
      · rintro g gA _ hg rfl
        have H2 : XI (shN s1 g 21 (400 : Int32).toNatClampNeg gA) rk q ci (va_up ai g (fun _ => 0)) n m pu := H1.N hg (Or.inr rfl) (fun d hd => va_up_ne _ _ hd) (fun _ j => by rw [va_self]; exact m8_0)
        obtain ⟨g1, g2, g3⟩ := arr_new (sh := s1) (b := g) (kk := 21) (ln := (400 : Int32).toNatClampNeg) (cA := gA)
        have hc9 := arr_old (kk := 21) (ln := (400 : Int32).toNatClampNeg) (cA := gA) hg c1
        generalize shN s1 g 21 (400 : Int32).toNatClampNeg gA = s2 at H2 g1 g2 g3 hc9 ⊢
        refine ok_fill H2 ⟨g1, g2, le_eq g3 n400⟩ (fun ai5 H5 h5 => ?_)
        rintro z _ hz rfl
        have N : Nw s2 z 3 (shO s2 z 3) ci ai5 (va_up ci z (fun _ => 0)) ai5 := Nw.O hz
        obtain ⟨t, t1, t2⟩ := H5.met
        obtain ⟨o1, o2, o3, o4, -⟩ := N.2.2.2.1 q H5.own.1
        exact ⟨⟨o1, o2.trans H5.own.2⟩, t, (congrFun o4 0).trans t1, ⟨N.2.1, N.2.2.1⟩, ok_X3 N ⟨hc9.1, hc9.2.1.trans c2, le_eq (hc9.2.2.1.trans c4) (Nat.le_refl _)⟩ ⟨g1, g2, le_eq g3 n400⟩ h5 r8_3 (fun sh' ci' ai' al' N' F' W' => Nw.add (by decide) H5 N' a4 t2 F' W' (fun sh2 rk2 ci2 ai2 h2 => hQ a4 _ _ _ _ _ h2))⟩
      · have hlt' : i < 400 := by
          rcases Nat.lt_or_ge i 400 with e | e
          · exact e
          · exact absurd (nI_le (a := 400) (b := i) e (by omega)) hlt
        refine ⟨⟨c1, c2⟩, by rw [c4]; exact vp_in_nI hlt' (by decide), ?_⟩
        rw [nIs]
        exact ih (i + 1) _ (by omega) (by omega)
  exact ⟨_, key _ 0 _ (Nat.lt_succ_self _) (by decide)⟩
end XG
