abbrev NK (S0 : Sh) (z K t : Nat) (ci0 ai0 : Nat → Nat → Int32) (Q : Sh → SCTy) : Prop := ∀ sh' ci' ai' al', Nw S0 z K sh' ci0 ai0 ci' ai' → F5 sh' z t → Wz S0 sh' z K ai0 ci' → Q sh' ci' ai' al'
abbrev KM (q n m : Nat) (pu : Int32) (Q : Int32 → Sh → SCTy) : Prop := ∀ sh' rk' ci' ai' al', XI sh' rk' q ci' ai' (n + 1) m pu → Q (nI n) sh' ci' ai' al'
section XM
variable {S0 sh : Sh} {rk : Nat → Nat} {ci0 ai0 ci ai ai' : Nat → Nat → Int32} {al : Nat → Nat → Int64} {q z K n m t w w2 : Nat} {pu x p0 p1 p2 p3 : Int32} {y1 y2 : Int64} {Q : Sh → SCTy} {X : String → Prop}
theorem Wz.a {r5 : Option Nat} (hK : K = 0 ∨ K = 1 ∨ K = 2 ∨ K = 4 ∨ K = 7) (e5 : sR sh z 5 = r5) (h5 : ∀ y, r5 = some y → LZ S0 y) (hr5 : K ≠ 0 → ∃ y, r5 = some y) (h6 : (K = 1 ∨ K = 4) → ∀ y, sR sh z 6 = some y → LZ S0 y) : Wz S0 sh z K ai0 ci := by
  refine ⟨fun k hk y hy => ?_, fun h0 _ => ?_, fun e => by omega, fun e => by omega, fun e => by omega, fun e => by omega⟩
  · rcases hk with ⟨rfl, -⟩ | ⟨rfl, h⟩
    · exact h5 y (e5 ▸ hy)
    · exact h6 h y hy
  · rw [e5]; exact hr5 h0
theorem Wz.b (hK : K = 6 ∨ K = 8 ∨ K = 9) (e5 : sR sh z 5 = some w) (h5 : LZ S0 w) (h6 : K = 6 → ∀ b, sR sh z 6 = some b → b ∈ sL sh ∧ sK sh b = 20 ∧ sN sh b ≤ 400) (h8 : K = 8 → ∃ b, sR sh z 6 = some b ∧ b ∈ sL sh ∧ sK sh b = 20 ∧ sN sh b ≤ 400) (h9 : K = 9 → ∃ b, sR sh z 8 = some b ∧ b ∈ sL sh ∧ sK sh b = 20 ∧ sN sh b ≤ 400) : Wz S0 sh z K ai0 ci := by
  refine ⟨fun k hk y hy => ?_, fun _ _ => ⟨w, e5⟩, fun e => ?_, h6, h8, h9⟩
  · rcases hk with ⟨rfl, -⟩ | ⟨rfl, h⟩
    · rw [e5] at hy; cases hy; exact h5
    · clear h6 h8 h9 e5 hy; omega
  · clear h6 h8 h9 e5; omega
theorem sR_same {k : Nat} {r : Option Nat} : sR (shR sh z k r) z k = r := by rw [sR_z, if_pos rfl]
theorem sR_56 {r r6 : Option Nat} : sR (shR (shR sh z 5 r) z 6 r6) z 5 = r := by rw [sR_z, if_neg (by decide), sR_same]
theorem n400 : (400 : Int32).toNatClampNeg ≤ 400 := by decide
theorem n0 : (0 : Int32).toNatClampNeg ≤ 400 := by decide
theorem ok_X0 (h : Nw S0 z 0 sh ci0 ai0 ci ai) (hw : LZ S0 w) (hQ : NK S0 z 0 t ci0 ai0 Q) : P_X0_init sh ci ai al z t w p0 y1 y2 Q := by
  refine ⟨⟨h.2.1, h.2.2.1⟩, ok_own (by decide) n400 h (fun sh7 ai7 al7 N F => ⟨⟨N.2.1, N.2.2.1⟩, ?_⟩)⟩
  rintro _ rfl
  refine ⟨⟨N.2.1, N.2.2.1⟩, ?_⟩
  rintro _ rfl
  refine ⟨⟨N.2.1, N.2.2.1⟩, ?_⟩
  rintro _ rfl
  exact hQ _ _ _ _ (N.R.F (by decide)) (F.R (by decide)) (Wz.a (by decide) (sR_same (sh := sh7)) (fun y e => Option.some.inj e ▸ hw) (fun e => absurd rfl e) (fun e => absurd e (by decide)))
theorem ok_X0N (h : Nw S0 z 0 sh ci0 ai0 ci ai) (hQ : NK S0 z 0 t ci0 ai0 Q) : P_X0_initN sh ci ai al z t p0 y1 y2 Q := by
  refine ⟨⟨h.2.1, h.2.2.1⟩, ok_own (by decide) n400 h (fun sh7 ai7 al7 N F => ⟨⟨N.2.1, N.2.2.1⟩, ?_⟩)⟩
  rintro _ rfl
  refine ⟨⟨N.2.1, N.2.2.1⟩, ?_⟩
  rintro _ rfl
  refine ⟨⟨N.2.1, N.2.2.1⟩, ?_⟩
  rintro _ rfl
  exact hQ _ _ _ _ (N.R.F (by decide)) (F.R (by decide)) (Wz.a (by decide) (sR_same (sh := sh7)) (fun y e => nomatch e) (fun e => absurd rfl e) (fun e => absurd e (by decide)))
theorem ok_X1 (h : Nw S0 z 1 sh ci0 ai0 ci ai) (hw : LZ S0 w) (hw2 : LZ S0 w2) (hQ : NK S0 z 1 t ci0 ai0 Q) : P_X1_init sh ci ai al z t w w2 p0 y1 Q := by
  refine ⟨⟨h.2.1, h.2.2.1⟩, ok_own (by decide) n400 h (fun sh7 ai7 al7 N F => ⟨⟨N.2.1, N.2.2.1⟩, ?_⟩)⟩
  rintro _ rfl
  refine ⟨⟨N.2.1, N.2.2.1⟩, ?_⟩
  rintro _ rfl
  refine ⟨⟨N.2.1, N.2.2.1⟩, ?_⟩
  rintro _ rfl
  exact hQ _ _ _ _ (N.R.R.F (by decide)) ((F.R (by decide)).R (by decide)) (Wz.a (by decide) (sR_56 (sh := sh7)) (fun y e => Option.some.inj e ▸ hw) (fun _ => ⟨_, rfl⟩) (fun _ y e => Option.some.inj ((sR_same (sh := shR sh7 z 5 (some w)) (z := z) (k := 6) (r := some w2)).symm.trans e) ▸ hw2))
theorem ok_X1N (h : Nw S0 z 1 sh ci0 ai0 ci ai) (hw : LZ S0 w) (hQ : NK S0 z 1 t ci0 ai0 Q) : P_X1_initN sh ci ai al z t w p0 y1 Q := by
  refine ⟨⟨h.2.1, h.2.2.1⟩, ok_own (by decide) n400 h (fun sh7 ai7 al7 N F => ⟨⟨N.2.1, N.2.2.1⟩, ?_⟩)⟩
  rintro _ rfl
  refine ⟨⟨N.2.1, N.2.2.1⟩, ?_⟩
  rintro _ rfl
  refine ⟨⟨N.2.1, N.2.2.1⟩, ?_⟩
  rintro _ rfl
  exact hQ _ _ _ _ (N.R.R.F (by decide)) ((F.R (by decide)).R (by decide)) (Wz.a (by decide) (sR_56 (sh := sh7)) (fun y e => Option.some.inj e ▸ hw) (fun _ => ⟨_, rfl⟩) (fun _ y e => nomatch ((sR_same (sh := shR sh7 z 5 (some w)) (z := z) (k := 6) (r := none)).symm.trans e)))
theorem ok_X2 (h : Nw S0 z 2 sh ci0 ai0 ci ai) (hw : LZ S0 w) (hQ : NK S0 z 2 t ci0 ai0 Q) : P_X2_init sh ci ai al z t w p0 p1 y1 Q := by
  refine ⟨⟨h.2.1, h.2.2.1⟩, ok_own (by decide) n0 h (fun sh7 ai7 al7 N F => ⟨⟨N.2.1, N.2.2.1⟩, ?_⟩)⟩
  rintro _ rfl
  refine ⟨⟨N.2.1, N.2.2.1⟩, ?_⟩
  rintro _ rfl
  exact hQ _ _ _ _ ((N.R.F (by decide)).F (by decide)) (F.R (by decide)) (Wz.a (by decide) (sR_same (sh := sh7)) (fun y e => Option.some.inj e ▸ hw) (fun _ => ⟨_, rfl⟩) (fun e => absurd e (by decide)))
theorem ok_X4 (h : Nw S0 z 4 sh ci0 ai0 ci ai) (hw : LZ S0 w) (hw2 : LZ S0 w2) (hQ : NK S0 z 4 t ci0 ai0 Q) : P_X4_init sh ci ai al z t w w2 Q := by
  refine ⟨⟨h.2.1, h.2.2.1⟩, ok_own (by decide) n0 h (fun sh7 ai7 al7 N F => ⟨⟨N.2.1, N.2.2.1⟩, ?_⟩)⟩
  rintro _ rfl
  refine ⟨⟨N.2.1, N.2.2.1⟩, ?_⟩
  rintro _ rfl
  exact hQ _ _ _ _ N.R.R ((F.R (by decide)).R (by decide)) (Wz.a (by decide) (sR_56 (sh := sh7)) (fun y e => Option.some.inj e ▸ hw) (fun _ => ⟨_, rfl⟩) (fun _ y e => Option.some.inj ((sR_same (sh := shR sh7 z 5 (some w)) (z := z) (k := 6) (r := some w2)).symm.trans e) ▸ hw2))
theorem ok_X4N (h : Nw S0 z 4 sh ci0 ai0 ci ai) (hw : LZ S0 w) (hQ : NK S0 z 4 t ci0 ai0 Q) : P_X4_initN sh ci ai al z t w Q := by
  refine ⟨⟨h.2.1, h.2.2.1⟩, ok_own (by decide) n0 h (fun sh7 ai7 al7 N F => ⟨⟨N.2.1, N.2.2.1⟩, ?_⟩)⟩
  rintro _ rfl
  refine ⟨⟨N.2.1, N.2.2.1⟩, ?_⟩
  rintro _ rfl
  exact hQ _ _ _ _ N.R.R ((F.R (by decide)).R (by decide)) (Wz.a (by decide) (sR_56 (sh := sh7)) (fun y e => Option.some.inj e ▸ hw) (fun _ => ⟨_, rfl⟩) (fun _ y e => nomatch ((sR_same (sh := shR sh7 z 5 (some w)) (z := z) (k := 6) (r := none)).symm.trans e)))
theorem ok_X8 (h : Nw S0 z 7 sh ci0 ai0 ci ai) (hw : LZ S0 w) (hQ : NK S0 z 7 t ci0 ai0 Q) : P_X8_init sh ci ai al z t w p0 p1 y1 Q := by
  refine ⟨⟨h.2.1, h.2.2.1⟩, ok_own (by decide) n0 h (fun sh7 ai7 al7 N F => ⟨⟨N.2.1, N.2.2.1⟩, ?_⟩)⟩
  rintro _ rfl
  refine ⟨⟨N.2.1, N.2.2.1⟩, ?_⟩
  rintro _ rfl
  exact hQ _ _ _ _ ((N.R.F (by decide)).F (by decide)) (F.R (by decide)) (Wz.a (by decide) (sR_same (sh := sh7)) (fun y e => Option.some.inj e ▸ hw) (fun _ => ⟨_, rfl⟩) (fun e => absurd e (by decide)))
/-- a row of ints of its own -/
theorem Nw.row {c : Nat} {cA : ClassId} (h : Nw S0 z K sh ci0 ai0 ci ai) (hc : c ∉ sL sh) : Nw S0 z K (shN sh c 20 (400 : Int32).toNatClampNeg cA) ci0 ai0 ci (va_up ai c (fun _ => 0)) := h.N hc (fun d hd => va_up_ne _ _ hd) (Or.inl rfl)
theorem row20 {c : Nat} {cA : ClassId} : c ∈ sL (shN sh c 20 (400 : Int32).toNatClampNeg cA) ∧ sK (shN sh c 20 (400 : Int32).toNatClampNeg cA) c = 20 ∧ sN (shN sh c 20 (400 : Int32).toNatClampNeg cA) c ≤ 400 := ⟨List.mem_append_right _ (List.mem_singleton.mpr rfl), va_self, le_eq va_self n400⟩
theorem ok_X7 (h : Nw S0 z 6 sh ci0 ai0 ci ai) (hw : LZ S0 w) (hQ : NK S0 z 6 t ci0 ai0 Q) : P_X7_init sh ci ai al z t w p0 Q := by
  refine ⟨⟨h.2.1, h.2.2.1⟩, ok_own (by decide) n0 h (fun sh7 ai7 al7 N F => ⟨⟨N.2.1, N.2.2.1⟩, ?_⟩)⟩
  rintro _ rfl
  refine ⟨fun _ => ⟨⟨N.2.1, N.2.2.1⟩, ?_⟩, fun _ => ?_⟩
  · rintro _ rfl
    exact hQ _ _ _ _ N.R.R ((F.R (by decide)).R (by decide)) (Wz.b (by decide) (sR_56 (sh := sh7)) hw (fun _ y e => nomatch ((sR_same (sh := shR sh7 z 5 (some w)) (z := z) (k := 6) (r := none)).symm.trans e)) (fun e => absurd e (by decide)) (fun e => absurd e (by decide)))
  · rintro c cA _ hc rfl
    have N2 := Nw.row (cA := cA) (N.R (k := 5) (r := some w)) hc
    have F2 := F5.N (kk := 20) (ln := (400 : Int32).toNatClampNeg) (cA := cA) (F.R (k := 5) (r := some w) (by decide)) hc
    refine ⟨⟨N2.2.1, N2.2.2.1⟩, ?_⟩
    rintro _ rfl
    refine hQ _ _ _ _ N2.R (F2.R (by decide)) (Wz.b (w := w) (by decide) ?_ hw (fun _ y e => ?_) (fun e => absurd e (by decide)) (fun e => absurd e (by decide)))
    · rw [sR_z, if_neg (by decide)]; exact sR_same (sh := sh7)
    · rw [sR_same] at e; cases e; exact row20 (sh := shR sh7 z 5 (some w)) (cA := cA)
theorem ok_X9 (h : Nw S0 z 8 sh ci0 ai0 ci ai) (hw : LZ S0 w) (hQ : NK S0 z 8 t ci0 ai0 Q) : P_X9_init sh ci ai al z t w Q := by
  refine ⟨⟨h.2.1, h.2.2.1⟩, ok_own (by decide) n400 h (fun sh7 ai7 al7 N F => ⟨⟨N.2.1, N.2.2.1⟩, ?_⟩)⟩
  rintro _ rfl
  rintro c cA _ hc rfl
  have N2 := Nw.row (cA := cA) (N.R (k := 5) (r := some w)) hc
  have F2 := F5.N (kk := 20) (ln := (400 : Int32).toNatClampNeg) (cA := cA) (F.R (k := 5) (r := some w) (by decide)) hc
  refine ⟨⟨N2.2.1, N2.2.2.1⟩, ?_⟩
  rintro _ rfl
  refine hQ _ _ _ _ N2.R (F2.R (by decide)) (Wz.b (w := w) (by decide) ?_ hw (fun e => absurd e (by decide)) (fun _ => ⟨c, sR_same, row20 (sh := shR sh7 z 5 (some w)) (cA := cA)⟩) (fun e => absurd e (by decide)))
  rw [sR_z, if_neg (by decide)]; exact sR_same (sh := sh7)
theorem ok_X10 (h : Nw S0 z 9 sh ci0 ai0 ci ai) (hw : LZ S0 w) (hQ : NK S0 z 9 t ci0 ai0 Q) : P_X10_init sh ci ai al z t w p0 y1 Q := by
  refine ⟨⟨h.2.1, h.2.2.1⟩, ok_own (by decide) n0 h (fun sh7 ai7 al7 N F => ⟨⟨N.2.1, N.2.2.1⟩, ?_⟩)⟩
  rintro _ rfl
  refine ⟨⟨N.2.1, N.2.2.1⟩, ?_⟩
  rintro _ rfl
  rintro c cA _ hc rfl
  have N2 := Nw.row (cA := cA) ((N.R (k := 5) (r := some w)).J (k := 7) (y := y1)) hc
  have F2 : F5 (shN (shJ (shR sh7 z 5 (some w)) z 7 y1) c 20 (400 : Int32).toNatClampNeg cA) z t := F5.N (sh := shR sh7 z 5 (some w)) (cA := cA) (F.R (k := 5) (r := some w) (by decide)) hc
  refine ⟨⟨N2.2.1, N2.2.2.1⟩, ?_⟩
  rintro _ rfl
  refine hQ _ _ _ _ (N2.R.F (by decide)) (F2.R (by decide)) (Wz.b (w := w) (by decide) ?_ hw (fun e => absurd e (by decide)) (fun e => absurd e (by decide)) (fun _ => ⟨c, sR_same, row20 (sh := shJ (shR sh7 z 5 (some w)) z 7 y1) (cA := cA)⟩))
  rw [sR_z, if_neg (by decide)]; exact sR_same (sh := sh7)
theorem ok_X3 {b g : Nat} (h : Nw S0 z 3 sh ci0 ai0 ci ai) (hb : b ∈ sL S0 ∧ sK S0 b = 22 ∧ sN S0 b ≤ 400) (hg : g ∈ sL S0 ∧ sK S0 g = 21 ∧ sN S0 g ≤ 400) (hg2 : ∀ j, j < sN S0 g → ¬ ai0 g j = 0) (hx : r8 p0) (hQ : NK S0 z 3 t ci0 ai0 Q) : P_X3_init sh ci ai al z t b g p0 Q := by
  obtain ⟨b1, b2, b3, -⟩ := h.2.2.2.1 b hb.1
  refine ⟨⟨h.2.1, h.2.2.1⟩, ok_init5 (by decide) h b1 (b2.trans hb.2.1) (le_eq b3 hb.2.2) (fun sh7 ai7 N F _ => ⟨⟨N.2.1, N.2.2.1⟩, ?_⟩)⟩
  rintro _ rfl
  refine ⟨⟨N.2.1, N.2.2.1⟩, hQ _ _ _ _ (N.R.F (by decide)) (F.R (by decide)) ⟨fun k hk y hy => ?_, fun _ e => absurd rfl e, fun _ => ⟨?_, g, sR_same, hg.1, hg.2.1, hg.2.2, hg2⟩, fun e => absurd e (by decide), fun e => absurd e (by decide), fun e => absurd e (by decide)⟩⟩
  · rcases hk with ⟨-, h⟩ | ⟨-, h⟩ <;> exact absurd h (by decide)
  · rw [up_same]; exact hx
end XM
