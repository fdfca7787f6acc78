def plc (r : Int32) : Nat := r.toNatClampNeg / 2
/-- the pile: unmet goals, each of a lower place than the one below it -/
def PO (fi : Nat → Nat → Int32) (n h : Nat) : Prop := (∀ i, i < h → Nd fi n 9600 (fi 31 i)) ∧ (∀ i j, i < j → j < h → plc (fi 31 j) < plc (fi 31 i))
abbrev KMe (n u : Nat) (v : Nat → Int32) (fi : Nat → Nat → Int32) (Q : Int32 → MT) : Prop := ∀ r v' w' fi' fl' s, IM fi' n → Mo fi fi' → v' 0 = v 0 → v' 12 = v 12 → v' 15 = nI u → v' 16 = nI s → s ≤ u → Q r v' w' fi' fl'
def tm (fi : Nat → Nat → Int32) (h : Nat) : Nat := if h = 0 then 0 else plc (fi 31 (h - 1)) + 1
section MM
variable {v v1 : Nat → Int32} {w : Nat → Int64} {fi fi' : Nat → Nat → Int32} {fl : Nat → Nat → Int64} {n a b k l t j lim p h u s0 : Nat} {r s : Int32} {Q : Int32 → MT}
theorem Nd.plt (hn : n ≤ 24) (h : Nd fi n lim r) : plc r < lim ∧ plc r < 9600 := by
  rcases h with ⟨l, k, h1, h2, h3, rfl, -⟩ | ⟨l, k, h1, h2, h3, rfl, -⟩
  · unfold plc; rw [nI_clamp (by omega)]; omega
  · unfold plc; rw [nI_clamp (by omega)]; omega
theorem Nd.all (hn : n ≤ 24) (h : Nd fi n lim r) : Nd fi n 9600 r := by
  rcases h with ⟨l, k, h1, h2, h3, h4⟩ | ⟨l, k, h1, h2, h3, h4⟩
  · exact Or.inl ⟨l, k, h1, h2, by omega, h4⟩
  · exact Or.inr ⟨l, k, h1, h2, by omega, h4⟩
theorem Nd.keep (hn : n ≤ 24) (h : Nd fi n lim r) (hp : plc r ≠ p) (h7 : ∀ q, q ≠ p → fi' 7 q = fi 7 q) (h8 : ∀ q, q ≠ p → fi' 8 q = fi 8 q) (h10 : ∀ q, q ≠ p → fi' 10 q = fi 10 q) (hM : ∀ q, fi 7 q = 1 → fi' 7 q = 1) : Nd fi' n lim r := by
  rcases h with ⟨l, k, h1, h2, h3, rfl, h4, h5⟩ | ⟨l, k, h1, h2, h3, rfl, h4, h5, h6⟩
  · have hq : 400 * l + k ≠ p := fun e => hp (by unfold plc; rw [nI_clamp (by omega)]; omega)
    exact Or.inl ⟨l, k, h1, h2, h3, rfl, by rw [h7 _ hq]; exact h4, fun i hi => hM _ (h5 i hi)⟩
  · have hq : 400 * l + k ≠ p := fun e => hp (by unfold plc; rw [nI_clamp (by omega)]; omega)
    exact Or.inr ⟨l, k, h1, h2, h3, rfl, by rw [h8 _ hq]; exact h4, hM _ h5, by rw [h10 _ hq]; exact h6⟩
theorem Nd.cg (h : Nd fi n lim r) (e7 : fi' 7 = fi 7) (e8 : fi' 8 = fi 8) (e10 : fi' 10 = fi 10) : Nd fi' n lim r := by
  unfold Nd TH at *
  rw [e7, e8, e10]; exact h
theorem PO.high (hn : n ≤ 24) (P : PO fi n h) : h ≤ 9600 := by
  have key : ∀ i, i < h → plc (fi 31 i) + i < 9600 := by
    intro i
    induction i with
    | zero => intro hi; have := (Nd.plt hn (P.1 0 hi)).2; omega
    | succ i ih => intro hi; have := ih (by omega); have := P.2 i (i + 1) (by omega) hi; omega
  rcases Nat.eq_zero_or_pos h with e | e
  · omega
  · have := key (h - 1) (by omega)
    omega
theorem tm_le (hn : n ≤ 24) (P : PO fi n h) : tm fi h ≤ 9600 := by
  unfold tm
  split
  · omega
  · have := (Nd.plt hn (P.1 (h - 1) (by omega))).2
    omega
/-- a need is pushed -/
theorem PO.push (hn : n ≤ 24) (P : PO fi n (h + 1)) (hN : Nd fi n (plc (fi 31 h)) r) : PO (va_up fi 31 (upd (fi 31) (h + 1) r)) n (h + 2) ∧ tm (va_up fi 31 (upd (fi 31) (h + 1) r)) (h + 2) < tm fi (h + 1) := by
  have e : ∀ i, va_up fi 31 (upd (fi 31) (h + 1) r) 31 i = if i = h + 1 then r else fi 31 i := fun i => by rw [va_self]; rfl
  have c7 : ∀ {r' : Int32} {lim : Nat}, Nd fi n lim r' → Nd (va_up fi 31 (upd (fi 31) (h + 1) r)) n lim r' := fun hr => hr.cg (va_up_ne _ _ (by decide)) (va_up_ne _ _ (by decide)) (va_up_ne _ _ (by decide))
  have hp := (Nd.plt hn hN).1
  refine ⟨⟨fun i hi => ?_, fun i j hij hj => ?_⟩, ?_⟩
  · rw [e]
    split
    · exact c7 (Nd.all hn hN)
    · exact c7 (P.1 i (by omega))
  · rw [e, e, if_neg (by omega : ¬ i = h + 1)]
    split
    · rcases Nat.lt_or_ge i h with g | g
      · have := P.2 i h g (by omega); omega
      · rw [show i = h by omega]; exact hp
    · exact P.2 i j hij (by omega)
  · unfold tm
    rw [if_neg (by omega), if_neg (by omega), show h + 2 - 1 = h + 1 by omega, e, if_pos rfl, show h + 1 - 1 = h by omega]
    omega
theorem PO.pop (hn : n ≤ 24) (P : PO fi n (h + 1)) (hp : plc (fi 31 h) = p) (e31 : fi' 31 = fi 31) (h7 : ∀ q, q ≠ p → fi' 7 q = fi 7 q) (h8 : ∀ q, q ≠ p → fi' 8 q = fi 8 q) (h10 : ∀ q, q ≠ p → fi' 10 q = fi 10 q) (hM : ∀ q, fi 7 q = 1 → fi' 7 q = 1) : PO fi' n h := by
  refine ⟨fun i hi => ?_, fun i j hij hj => ?_⟩
  · rw [e31]
    exact (P.1 i (by omega)).keep hn (by have := P.2 i h hi (by omega); omega) h7 h8 h10 hM
  · rw [e31]; exact P.2 i j hij (by omega)
theorem m9 {A B T c : Nat} (hT : T ≤ 9600) (hA : A = B + 1) : B * 9601 + T < A * 9601 + c := by subst hA; omega
theorem mn_meet_loop : ∀ (f h s : Nat) (v : Nat → Int32) (w : Nat → Int64) (fi : Nat → Nat → Int32) (fl : Nat → Nat → Int64), (u - s) * 9601 + tm fi h < f → IM fi n → PO fi n h → v 15 = nI u → v 16 = nI s → s ≤ u → u ≤ 5000 → KMe n u v fi Q → P_X12_meet_9 Q f v w fi fl (nI h) := by
  intro f
  induction f with
  | zero => intro h s v w fi fl hf; exact absurd hf (Nat.not_lt_zero _)
  | succ f ih =>
    intro h s v w fi fl hf I P hu hs hsu hu5 hK
    have hn := I.1
    have hh := P.high hn
    refine ⟨fun _ => hK 1 v w fi fl s I Mo.rf rfl rfl hu hs hsu, fun hpos => ?_⟩
    obtain ⟨h, rfl⟩ : ∃ g, h = g + 1 := ⟨h - 1, by
      have : 0 < h := Nat.pos_of_ne_zero (fun e => hpos (by rw [e]; decide))
      omega⟩
    have e31 : nI (h + 1) - 1 = nI h := nI_pred h
    have hv20 : vp_in (nI h) 20000 := vp_in_nI (by omega) (by decide)
    rw [e31, nI_clamp (n := h) (by omega)]
    refine ⟨hv20, ?_⟩
    rintro z rfl
    refine ⟨hv20, ?_⟩
    have tmh : tm fi (h + 1) = plc (fi 31 h) + 1 := by unfold tm; rw [if_neg (by omega), Nat.add_sub_cancel]
    -- what each outcome does
    have out : ∀ {v' : Nat → Int32} {w' : Nat → Int64}, Sc v v' → Q 0 v' w' fi fl := fun hsc => hK 0 _ _ _ _ s I Mo.rf (hsc 0 (by decide)) (hsc 12 (by decide)) ((hsc 15 (by decide)).trans hu) ((hsc 16 (by decide)).trans hs) hsu
    have need : ∀ {v' : Nat → Int32} {w' : Nat → Int64} {r : Int32}, Sc v v' → Nd fi n (plc (fi 31 h)) r → vp_in (nI (h + 1)) 20000 ∧ P_X12_meet_9 Q f v' w' (va_up fi 31 (upd (fi 31) (nI (h + 1)).toNatClampNeg r)) fl (nI (h + 1) + 1) := by
      intro v' w' r hsc hN
      rw [nI_clamp (n := h + 1) (by omega), nIs]
      obtain ⟨P2, T2⟩ := P.push hn hN
      refine ⟨vp_in_nI (by omega) (by decide), ih (h + 2) s _ _ _ _ (by omega) (I.cg (va_up_ne _ _ (by decide)) (va_up_ne _ _ (by decide)) (va_up_ne _ _ (by decide)) (va_up_ne _ _ (by decide)) (va_up_ne _ _ (by decide)) (va_up_ne _ _ (by decide)) (va_up_ne _ _ (by decide))) P2 ((hsc 15 (by decide)).trans hu) ((hsc 16 (by decide)).trans hs) hsu hu5 ?_⟩
      intro r9 v9 w9 fi9 fl9 s9 I9 M9 g0 g12 g15 g16 gs
      refine hK r9 v9 w9 fi9 fl9 s9 I9 (Mo.tr ⟨va_up_ne _ _ (by decide), va_up_ne _ _ (by decide), va_up_ne _ _ (by decide), va_up_ne _ _ (by decide), fun q _ => congrFun (va_up_ne _ _ (by decide)) q⟩ M9) (g0.trans (hsc 0 (by decide))) (g12.trans (hsc 12 (by decide))) g15 g16 gs
    have spend : ∀ {v' : Nat → Int32} {w' : Nat → Int64} {fi' : Nat → Nat → Int32} {fl' : Nat → Nat → Int64}, Sc v v' → ¬ v' 16 = v' 15 → IM fi' n → Mo fi fi' → PO fi' n h → P_X12_meet_9 Q f (va_up v' 16 (v' 16 + 1)) w' fi' fl' (nI (h + 1) + (-1)) := by
      intro v' w' fi' fl' hsc hne I' M' P'
      have e15 : v' 15 = nI u := (hsc 15 (by decide)).trans hu
      have e16 : v' 16 = nI s := (hsc 16 (by decide)).trans hs
      have hlt : s < u := by
        rcases Nat.lt_or_ge s u with e | e
        · exact e
        · exact absurd (by rw [e15, e16, show s = u by omega]) hne
      rw [pk_m1, e16, nIs]
      have hT := tm_le hn P'
      have hm : (u - (s + 1)) * 9601 + tm fi' h < f := Nat.lt_of_lt_of_le (m9 (A := u - s) (B := u - (s + 1)) (c := tm fi (h + 1)) hT (by omega)) (Nat.le_of_lt_succ hf)
      refine ih h (s + 1) _ _ _ _ hm I' P' ((va_up_ne _ _ (by decide)).trans e15) va_self (by omega) hu5 ?_
      intro r9 v9 w9 fi9 fl9 s9 I9 M9 g0 g12 g15 g16 gs
      exact hK r9 v9 w9 fi9 fl9 s9 I9 (M'.tr M9) (g0.trans ((va_up_ne _ _ (by decide)).trans (hsc 0 (by decide)))) (g12.trans ((va_up_ne _ _ (by decide)).trans (hsc 12 (by decide)))) g15 g16 gs
    rcases P.1 h (by omega) with ⟨l, k, h1, h2, h3, e9, h4, h5⟩ | ⟨l, k, h1, h2, h3, e9, h4, h5, h6⟩
    · have hpl : plc (fi 31 h) = 400 * l + k := by unfold plc; rw [e9, nI_clamp (by omega)]; omega
      have ez : nI (2 * (400 * l + k)) / 2 = nI (400 * l + k) := by
        rw [show (2 : Int32) = nI 2 from rfl, pk_div (by omega) (by decide) (by decide)]
        congr 1; omega
      have er : nI (2 * (400 * l + k)) - nI (2 * (400 * l + k)) / 2 * 2 = nI 0 := by
        rw [show (2 : Int32) = nI 2 from rfl, pk_rem (by omega) (by decide) (by decide)]
        congr 1; omega
      have el : nI (400 * l + k) / 400 = nI l := by
        rw [show (400 : Int32) = nI 400 from rfl, pk_div (by omega) (by decide) (by decide)]
        congr 1; omega
      have ek : nI (400 * l + k) - nI (400 * l + k) / 400 * 400 = nI k := by
        rw [show (400 : Int32) = nI 400 from rfl, pk_rem (by omega) (by decide) (by decide)]
        congr 1; omega
      rw [e9, er, ez, ek, el, nI_clamp (n := 400 * l + k) (by omega)]
      have hvz : vp_in (nI (400 * l + k)) 9600 := vp_in_nI (by omega) (by decide)
      refine ⟨fun _ => ⟨hvz, fun _ => ?_, fun hne => absurd h4 hne⟩, fun e => absurd e (by decide)⟩
      obtain ⟨t, hkd⟩ := I.2.1 l h1
      refine mn_lookAtCell I h1 h2 hkd h5 ⟨fun v' w' hsc => ⟨fun e => absurd rfl e, fun _ => out hsc⟩, fun v' w' r hsc hN => ⟨fun _ => ⟨fun e => absurd e (hN.ne hn).1, fun _ => need hsc (by rw [hpl]; exact hN)⟩, fun e => absurd e (hN.ne hn).2⟩, fun v' w' hsc hB => ⟨fun _ => ⟨fun _ => ⟨fun hne => ⟨hvz, hvz, hvz, ?_⟩, fun _ => out hsc⟩, fun e => absurd rfl e⟩, fun e => absurd e (by decide)⟩⟩
      obtain ⟨y, x, b1, b2, b3, b4, b5, b6⟩ := hB
      have n7 : ∀ q, q ≠ 400 * l + k → va_up (va_up (va_up fi 7 (upd (fi 7) (400 * l + k) (v' 26))) 10 (upd ((va_up fi 7 (upd (fi 7) (400 * l + k) (v' 26))) 10) (400 * l + k) ((v' 27) + 1))) 11 (upd ((va_up (va_up fi 7 (upd (fi 7) (400 * l + k) (v' 26))) 10 (upd ((va_up fi 7 (upd (fi 7) (400 * l + k) (v' 26))) 10) (400 * l + k) ((v' 27) + 1))) 11) (400 * l + k) (v' 28)) 7 q = fi 7 q := fun q hq => by
        rw [va_up_ne _ _ (by decide : (7 : Nat) ≠ 11), va_up_ne _ _ (by decide : (7 : Nat) ≠ 10), va_self]; exact pk_un hq
      obtain ⟨I2, M2⟩ := IM.set (s := v' 26) (y := y) (x := x) (fi' := va_up (va_up (va_up fi 7 (upd (fi 7) (400 * l + k) (v' 26))) 10 (upd ((va_up fi 7 (upd (fi 7) (400 * l + k) (v' 26))) 10) (400 * l + k) ((v' 27) + 1))) 11 (upd ((va_up (va_up fi 7 (upd (fi 7) (400 * l + k) (v' 26))) 10 (upd ((va_up fi 7 (upd (fi 7) (400 * l + k) (v' 26))) 10) (400 * l + k) ((v' 27) + 1))) 11) (400 * l + k) (v' 28))) I h1 h2 h4 h5 hkd b3 b4 b5 b6
        (by rw [va_up_ne _ _ (by decide), va_up_ne _ _ (by decide), va_up_ne _ _ (by decide)]) (by rw [va_up_ne _ _ (by decide), va_up_ne _ _ (by decide), va_up_ne _ _ (by decide)]) (by rw [va_up_ne _ _ (by decide), va_up_ne _ _ (by decide), va_up_ne _ _ (by decide)]) (by rw [va_up_ne _ _ (by decide), va_up_ne _ _ (by decide), va_up_ne _ _ (by decide)])
        (by rw [va_up_ne _ _ (by decide : (7 : Nat) ≠ 11), va_up_ne _ _ (by decide : (7 : Nat) ≠ 10), va_self])
        (by rw [va_up_ne _ _ (by decide : (10 : Nat) ≠ 11), va_self, va_up_ne _ _ (by decide : (10 : Nat) ≠ 7), b1])
        (by rw [va_self, va_up_ne _ _ (by decide : (11 : Nat) ≠ 10), va_up_ne _ _ (by decide : (11 : Nat) ≠ 7), b2])
      refine spend hsc hne I2 M2 (P.pop hn hpl ?_ n7 (fun q _ => ?_) (fun q hq => ?_) (fun q hq => ?_))
      · rw [va_up_ne _ _ (by decide), va_up_ne _ _ (by decide), va_up_ne _ _ (by decide)]
      · rw [va_up_ne _ _ (by decide : (8 : Nat) ≠ 11), va_up_ne _ _ (by decide : (8 : Nat) ≠ 10), va_up_ne _ _ (by decide : (8 : Nat) ≠ 7)]
      · rw [va_up_ne _ _ (by decide : (10 : Nat) ≠ 11), va_self, va_up_ne _ _ (by decide : (10 : Nat) ≠ 7)]; exact pk_un hq
      · rw [n7 q (fun e => by rw [e, h4] at hq; exact absurd hq (by decide))]; exact hq
    · have hpl : plc (fi 31 h) = 400 * l + k := by unfold plc; rw [e9, nI_clamp (by omega)]; omega
      have ez : nI (2 * (400 * l + k) + 1) / 2 = nI (400 * l + k) := by
        rw [show (2 : Int32) = nI 2 from rfl, pk_div (by omega) (by decide) (by decide)]
        congr 1; omega
      have er : nI (2 * (400 * l + k) + 1) - nI (2 * (400 * l + k) + 1) / 2 * 2 = nI 1 := by
        rw [show (2 : Int32) = nI 2 from rfl, pk_rem (by omega) (by decide) (by decide)]
        congr 1; omega
      have el : nI (400 * l + k) / 400 = nI l := by
        rw [show (400 : Int32) = nI 400 from rfl, pk_div (by omega) (by decide) (by decide)]
        congr 1; omega
      have ek : nI (400 * l + k) - nI (400 * l + k) / 400 * 400 = nI k := by
        rw [show (400 : Int32) = nI 400 from rfl, pk_rem (by omega) (by decide) (by decide)]
        congr 1; omega
      rw [e9, er, ez, ek, el, nI_clamp (n := 400 * l + k) (by omega)]
      have hvz : vp_in (nI (400 * l + k)) 9600 := vp_in_nI (by omega) (by decide)
      refine ⟨fun e => absurd rfl e, fun _ => ⟨hvz, fun _ => ?_, fun hne => absurd h4 hne⟩⟩
      refine mn_lookAtItem I h1 h2 h5 h6 ⟨fun v' w' hsc => ⟨fun e => absurd rfl e, fun _ => out hsc⟩, fun v' w' r hsc hN => ⟨fun _ => ⟨fun e => absurd e (hN.ne hn).1, fun _ => need hsc (by rw [hpl]; exact hN)⟩, fun e => absurd e (hN.ne hn).2⟩, fun v' w' hsc => ⟨fun _ => ⟨fun _ => ⟨fun hne => ⟨hvz, hvz, ?_⟩, fun _ => out hsc⟩, fun e => absurd rfl e⟩, fun e => absurd e (by decide)⟩⟩
      refine spend hsc hne (I.cg (va_up_ne _ _ (by decide)) (va_up_ne _ _ (by decide)) (va_up_ne _ _ (by decide)) (va_up_ne _ _ (by decide)) (va_up_ne _ _ (by decide)) (va_up_ne _ _ (by decide)) (va_up_ne _ _ (by decide))) ⟨va_up_ne _ _ (by decide), va_up_ne _ _ (by decide), va_up_ne _ _ (by decide), va_up_ne _ _ (by decide), fun q _ => congrFun (va_up_ne _ _ (by decide)) q⟩ (P.pop hn hpl (va_up_ne _ _ (by decide)) (fun q _ => congrFun (va_up_ne _ _ (by decide)) q) (fun q hq => ?_) (fun q _ => congrFun (va_up_ne _ _ (by decide)) q) (fun q hq => ?_))
      · rw [va_self]; exact pk_un hq
      · rw [va_up_ne _ _ (by decide)]; exact hq
end MM
