abbrev Sh : Type := List Nat × (Nat → Nat) × (Nat → Nat) × (Nat → ClassId) × (Nat → Nat → Option Nat) × (Nat → Nat → Int64) × (Nat → Nat → Option Nat)
def sL (h : Sh) : List Nat := h.1
def sK (h : Sh) : Nat → Nat := h.2.1
def sN (h : Sh) : Nat → Nat := h.2.2.1
def sA (h : Sh) : Nat → ClassId := h.2.2.2.1
def sR (h : Sh) : Nat → Nat → Option Nat := h.2.2.2.2.1
def sJ (h : Sh) : Nat → Nat → Int64 := h.2.2.2.2.2.1
def sQ (h : Sh) : Nat → Nat → Option Nat := h.2.2.2.2.2.2
def cFs (k : Nat) (r : Nat → Option Nat) (j : Nat → Int64) (i : Nat → Int32) : List Value := match k with
  | 0 => [va_rf (r 0), va_rf (r 1), va_rf (r 2), .int (i 3), .int (i 4), va_rf (r 5), .int (i 6), .long (j 7), .long (j 8)]
  | 1 => [va_rf (r 0), va_rf (r 1), va_rf (r 2), .int (i 3), .int (i 4), va_rf (r 5), va_rf (r 6), .int (i 7), .long (j 8)]
  | 2 => [va_rf (r 0), va_rf (r 1), va_rf (r 2), .int (i 3), .int (i 4), va_rf (r 5), .int (i 6), .int (i 7), .long (j 8)]
  | 3 => [va_rf (r 0), va_rf (r 1), va_rf (r 2), .int (i 3), .int (i 4), va_rf (r 5), .int (i 6)]
  | 4 => [va_rf (r 0), va_rf (r 1), va_rf (r 2), .int (i 3), .int (i 4), va_rf (r 5), va_rf (r 6)]
  | 5 => [.int (i 0), .int (i 1)]
  | 6 => [va_rf (r 0), va_rf (r 1), va_rf (r 2), .int (i 3), .int (i 4), va_rf (r 5), va_rf (r 6)]
  | 7 => [va_rf (r 0), va_rf (r 1), va_rf (r 2), .int (i 3), .int (i 4), va_rf (r 5), .int (i 6), .long (j 7), .int (i 8)]
  | 8 => [va_rf (r 0), va_rf (r 1), va_rf (r 2), .int (i 3), .int (i 4), va_rf (r 5), va_rf (r 6), .int (i 7)]
  | 9 => [va_rf (r 0), va_rf (r 1), va_rf (r 2), .int (i 3), .int (i 4), va_rf (r 5), .int (i 6), .long (j 7), va_rf (r 8)]
  | 10 => [va_rf (r 0), va_rf (r 1), va_rf (r 2), va_rf (r 3), .int (i 4), .int (i 5), .int (i 6), .int (i 7), .int (i 8)]
  | _ => []
def cE (h : Sh) (ci : Nat → Nat → Int32) (ai : Nat → Nat → Int32) (al : Nat → Nat → Int64) (q : Nat) : va_E :=
  if sK h q = 20 ∨ sK h q = 21 then .inl (sA h q, sN h q, .inl (ai q))
  else if sK h q = 22 then .inl (sA h q, sN h q, .inr (.inl (al q)))
  else if sK h q = 23 then .inl (sA h q, sN h q, .inr (.inr (.inr (.inr (sQ h q)))))
  else .inr (sK h q, cFs (sK h q) (sR h q) (sJ h q) (ci q))
def cW (h : Sh) (ci : Nat → Nat → Int32) (ai : Nat → Nat → Int32) (al : Nat → Nat → Int64) : va_W := va_pl (sL h) (cE h ci ai al)
def cTy (s : State) (cA : ClassId) (ty : FieldType) : Prop := ArrOfT s cA ty ∧ va_RA s cA ty
def cT (h : Sh) (s : State) : Prop := ∀ q ∈ sL h, (sK h q = 20 → cTy s (sA h q) .int) ∧ (sK h q = 21 → cTy s (sA h q) .byte) ∧ (sK h q = 22 → cTy s (sA h q) .long) ∧ (sK h q = 23 → cTy s (sA h q) (.object RX5))
theorem cTy.moved {u U : State} {cA : ClassId} {ty : FieldType} (hvm : u.vm.Alike U.vm) (h : cTy u cA ty) : cTy U cA ty := ⟨arrOfT_moved hvm h.1, h.2.moved hvm⟩
theorem cT.moved {h : Sh} {u U : State} (hvm : u.vm.Alike U.vm) (t : cT h u) : cT h U := fun q hq => ⟨fun e => ((t q hq).1 e).moved hvm, fun e => ((t q hq).2.1 e).moved hvm, fun e => ((t q hq).2.2.1 e).moved hvm, fun e => ((t q hq).2.2.2 e).moved hvm⟩
def cK (dC : Nat → ClassId) (dI : Nat → Nat → Nat) (h : Sh) (s : State) : Prop := va_K (dC, dI) vwCl [] s ∧ cT h s
theorem cK.moved {dC : Nat → ClassId} {dI : Nat → Nat → Nat} {h : Sh} {u U : State} (hvm : u.vm.Alike U.vm) (t : cK dC dI h u) : cK dC dI h U := ⟨va_K.moved hvm t.1, t.2.moved hvm⟩
theorem cK.with {dC : Nat → ClassId} {dI : Nat → Nat → Nat} {h : Sh} {s : State} (t : cK dC dI h s) {cA : ClassId} {ty : FieldType} (hy : cTy s cA ty) : va_K (dC, dI) vwCl [(cA, ty)] s := ⟨t.1.1, fun k q hk => by
  cases k with
  | zero => cases (Option.some.inj hk); exact hy
  | succ k => simp at hk⟩
abbrev isZ (k : Nat) : Prop := k = 0 ∨ k = 1 ∨ k = 2 ∨ k = 3 ∨ k = 4 ∨ k = 6 ∨ k = 7 ∨ k = 8 ∨ k = 9
abbrev CSt : Type := (Nat → Nat → Int32) × (Nat → Nat → Int32) × (Nat → Nat → Int64)
theorem cE_o {h : Sh} {ci : Nat → Nat → Int32} {ai : Nat → Nat → Int32} {al : Nat → Nat → Int64} {q K : Nat} (e : sK h q = K) (hK : K < 20) : cE h ci ai al q = .inr (K, cFs K (sR h q) (sJ h q) (ci q)) := by
  unfold cE; rw [e, if_neg (by omega), if_neg (by omega), if_neg (by omega)]
theorem cE_i {h : Sh} {ci : Nat → Nat → Int32} {ai : Nat → Nat → Int32} {al : Nat → Nat → Int64} {q : Nat} (e : sK h q = 20 ∨ sK h q = 21) : cE h ci ai al q = .inl (sA h q, sN h q, .inl (ai q)) := by
  unfold cE; rw [if_pos e]
theorem cE_l {h : Sh} {ci : Nat → Nat → Int32} {ai : Nat → Nat → Int32} {al : Nat → Nat → Int64} {q : Nat} (e : sK h q = 22) : cE h ci ai al q = .inl (sA h q, sN h q, .inr (.inl (al q))) := by
  unfold cE; rw [e, if_neg (by omega), if_pos rfl]
theorem cE_q {h : Sh} {ci : Nat → Nat → Int32} {ai : Nat → Nat → Int32} {al : Nat → Nat → Int64} {q : Nat} (e : sK h q = 23) : cE h ci ai al q = .inl (sA h q, sN h q, .inr (.inr (.inr (.inr (sQ h q))))) := by
  unfold cE; rw [e, if_neg (by omega), if_neg (by omega), if_pos rfl]
theorem c_at {h : Sh} {ci : Nat → Nat → Int32} {ai : Nat → Nat → Int32} {al : Nat → Nat → Int64} {q : Nat} {e : va_E} (hq : q ∈ sL h) (he : cE h ci ai al q = e) : ∃ k : Nat, (cW h ci ai al)[k]? = some (q, e) := by
  obtain ⟨k, hk⟩ := va_pl_get (X := []) (f := cE h ci ai al) hq
  exact ⟨k, by rw [← he]; exact hk⟩
theorem c_set {h : Sh} {ci ci2 : Nat → Nat → Int32} {ai ai2 : Nat → Nat → Int32} {al al2 : Nat → Nat → Int64} {A : Nat → Prop} {q k : Nat} {e e2 : va_E} (hD : va_D A (cW h ci ai al)) (hq : q ∈ sL h) (hk : (cW h ci ai al)[k]? = some (q, e)) (he : cE h ci ai al q = e) (h2 : cE h ci2 ai2 al2 q = e2) (ho : ∀ a, a ≠ q → cE h ci2 ai2 al2 a = cE h ci ai al a) : (cW h ci ai al).set k (q, e2) = cW h ci2 ai2 al2 := by
  have h1 := va_pl_set (X := []) (f := cE h ci ai al) (e := e2) hD hq (by rw [he]; exact hk)
  refine Eq.trans h1 ?_
  refine va_pl_congr (fun a => ?_)
  by_cases ha : a = q
  · rw [ha, va_up_self, h2]
  · rw [va_up_ne _ _ ha, ho a ha]
def Gc (U : State) : Prop := va_Nw (.declares ⟨"NeededLists$LazyList", "seek", "(I)I"⟩) U ∧ va_Nw (.methodLinkNest RX5 74 yX11_dividesByNone "NeededLists") U ∧ va_Nw (.methodLinkNest RX5 78 yX11_reckon "NeededLists") U ∧ va_Nw (.methodLinkNest RX2 37 yX11_meets "NeededLists") U ∧ va_Nw (.methodLinkNest RX8 41 yX11_meets "NeededLists") U ∧ va_Nw (.methodLinkNest RX10 42 yX11_meets "NeededLists") U ∧ va_Nw (.methodLinkNest RX11 11 yX6_init "NeededLists") U ∧ va_Nw (.fieldLinkNest RX11 188 "NeededLists$Meter" "used" "I" "NeededLists") U ∧ va_Nw (.fieldLinkNest RX11 191 "NeededLists$LazyList" "met" "I" "NeededLists") U ∧ va_AO RX5 U ∧ va_Nw (.castable RX0 RX5) U ∧ va_Nw (.castable RX1 RX5) U ∧ va_Nw (.castable RX2 RX5) U ∧ va_Nw (.castable RX3 RX5) U ∧ va_Nw (.castable RX4 RX5) U ∧ va_Nw (.castable RX7 RX5) U ∧ va_Nw (.castable RX8 RX5) U ∧ va_Nw (.castable RX9 RX5) U ∧ va_Nw (.castable RX10 RX5) U ∧ va_Nw (.castable "java/lang/IndexOutOfBoundsException" "java/lang/IndexOutOfBoundsException") U ∧ va_Nw (.castable "java/lang/IllegalArgumentException" "java/lang/IllegalArgumentException") U ∧ va_Nw (.castable "java/lang/UnsupportedOperationException" "java/lang/UnsupportedOperationException") U ∧ va_Nw (.castable "[J" "java/lang/Cloneable") U ∧ va_Nw (.castable "[B" "java/lang/Cloneable") U ∧ va_Nw (.declares ⟨"java/lang/RuntimeException", "<init>", "(Ljava/lang/String;)V"⟩) U ∧ va_Nw (.declares ⟨"java/lang/Exception", "<init>", "(Ljava/lang/String;)V"⟩) U ∧ va_Nw (.declares ⟨"java/lang/Throwable", "<init>", "(Ljava/lang/String;)V"⟩) U ∧ (∃ a, vk_R RX11 120 "sort is not 0 .. 4" a U) ∧ (∃ a, vk_R RX11 139 "n is not 1 .. 5000" a U) ∧ (∃ a, vk_R RX11 141 "k is below 0" a U) ∧ (∃ a, vk_R RX11 200 "there is no such list" a U) ∧ (∃ a, vk_R RX11 203 "there are 24 lists" a U) ∧ (∃ a, vk_R RX11 205 "op is not 0 .. 8" a U) ∧ (∃ a, vk_R RX11 207 "cond is not 0 .. 3" a U) ∧ (∃ a, vk_R RX11 209 "n is not 0 .. 400" a U) ∧ (∃ a, vk_R RX11 40 "kind is not 0 or 1" a U) ∧ (∃ a, vk_R RX11 50 "THE ROW is full" a U)
theorem Gc.seekD {U : State} (h : Gc U) : va_Nw (.declares ⟨"NeededLists$LazyList", "seek", "(I)I"⟩) U := h.1
theorem Gc.dbn {U : State} (h : Gc U) : va_Nw (.methodLinkNest RX5 74 yX11_dividesByNone "NeededLists") U := h.2.1
theorem Gc.rck {U : State} (h : Gc U) : va_Nw (.methodLinkNest RX5 78 yX11_reckon "NeededLists") U := h.2.2.1
theorem Gc.mt2 {U : State} (h : Gc U) : va_Nw (.methodLinkNest RX2 37 yX11_meets "NeededLists") U := h.2.2.2.1
theorem Gc.mt8 {U : State} (h : Gc U) : va_Nw (.methodLinkNest RX8 41 yX11_meets "NeededLists") U := h.2.2.2.2.1
theorem Gc.mt10 {U : State} (h : Gc U) : va_Nw (.methodLinkNest RX10 42 yX11_meets "NeededLists") U := h.2.2.2.2.2.1
theorem Gc.meterI {U : State} (h : Gc U) : va_Nw (.methodLinkNest RX11 11 yX6_init "NeededLists") U := h.2.2.2.2.2.2.1
theorem Gc.used {U : State} (h : Gc U) : va_Nw (.fieldLinkNest RX11 188 "NeededLists$Meter" "used" "I" "NeededLists") U := h.2.2.2.2.2.2.2.1
theorem Gc.metF {U : State} (h : Gc U) : va_Nw (.fieldLinkNest RX11 191 "NeededLists$LazyList" "met" "I" "NeededLists") U := h.2.2.2.2.2.2.2.2.1
theorem Gc.over {U : State} (h : Gc U) : va_AO RX5 U := h.2.2.2.2.2.2.2.2.2.1
theorem Gc.cX0 {U : State} (h : Gc U) : va_Nw (.castable RX0 RX5) U := h.2.2.2.2.2.2.2.2.2.2.1
theorem Gc.cX1 {U : State} (h : Gc U) : va_Nw (.castable RX1 RX5) U := h.2.2.2.2.2.2.2.2.2.2.2.1
theorem Gc.cX2 {U : State} (h : Gc U) : va_Nw (.castable RX2 RX5) U := h.2.2.2.2.2.2.2.2.2.2.2.2.1
theorem Gc.cX3 {U : State} (h : Gc U) : va_Nw (.castable RX3 RX5) U := h.2.2.2.2.2.2.2.2.2.2.2.2.2.1
theorem Gc.cX4 {U : State} (h : Gc U) : va_Nw (.castable RX4 RX5) U := h.2.2.2.2.2.2.2.2.2.2.2.2.2.2.1
theorem Gc.cX7 {U : State} (h : Gc U) : va_Nw (.castable RX7 RX5) U := h.2.2.2.2.2.2.2.2.2.2.2.2.2.2.2.1
theorem Gc.cX8 {U : State} (h : Gc U) : va_Nw (.castable RX8 RX5) U := h.2.2.2.2.2.2.2.2.2.2.2.2.2.2.2.2.1
theorem Gc.cX9 {U : State} (h : Gc U) : va_Nw (.castable RX9 RX5) U := h.2.2.2.2.2.2.2.2.2.2.2.2.2.2.2.2.2.1
theorem Gc.cX10 {U : State} (h : Gc U) : va_Nw (.castable RX10 RX5) U := h.2.2.2.2.2.2.2.2.2.2.2.2.2.2.2.2.2.2.1
theorem Gc.xIOO {U : State} (h : Gc U) : va_Nw (.castable "java/lang/IndexOutOfBoundsException" "java/lang/IndexOutOfBoundsException") U := h.2.2.2.2.2.2.2.2.2.2.2.2.2.2.2.2.2.2.2.1
theorem Gc.xIAE {U : State} (h : Gc U) : va_Nw (.castable "java/lang/IllegalArgumentException" "java/lang/IllegalArgumentException") U := h.2.2.2.2.2.2.2.2.2.2.2.2.2.2.2.2.2.2.2.2.1
theorem Gc.xUOE {U : State} (h : Gc U) : va_Nw (.castable "java/lang/UnsupportedOperationException" "java/lang/UnsupportedOperationException") U := h.2.2.2.2.2.2.2.2.2.2.2.2.2.2.2.2.2.2.2.2.2.1
theorem Gc.clJ {U : State} (h : Gc U) : va_Nw (.castable "[J" "java/lang/Cloneable") U := h.2.2.2.2.2.2.2.2.2.2.2.2.2.2.2.2.2.2.2.2.2.2.1
theorem Gc.clB {U : State} (h : Gc U) : va_Nw (.castable "[B" "java/lang/Cloneable") U := h.2.2.2.2.2.2.2.2.2.2.2.2.2.2.2.2.2.2.2.2.2.2.2.1
theorem Gc.dR {U : State} (h : Gc U) : va_Nw (.declares ⟨"java/lang/RuntimeException", "<init>", "(Ljava/lang/String;)V"⟩) U := h.2.2.2.2.2.2.2.2.2.2.2.2.2.2.2.2.2.2.2.2.2.2.2.2.1
theorem Gc.dE {U : State} (h : Gc U) : va_Nw (.declares ⟨"java/lang/Exception", "<init>", "(Ljava/lang/String;)V"⟩) U := h.2.2.2.2.2.2.2.2.2.2.2.2.2.2.2.2.2.2.2.2.2.2.2.2.2.1
theorem Gc.dT {U : State} (h : Gc U) : va_Nw (.declares ⟨"java/lang/Throwable", "<init>", "(Ljava/lang/String;)V"⟩) U := h.2.2.2.2.2.2.2.2.2.2.2.2.2.2.2.2.2.2.2.2.2.2.2.2.2.2.1
theorem Gc.t120 {U : State} (h : Gc U) : (∃ a, vk_R RX11 120 "sort is not 0 .. 4" a U) := h.2.2.2.2.2.2.2.2.2.2.2.2.2.2.2.2.2.2.2.2.2.2.2.2.2.2.2.1
theorem Gc.t139 {U : State} (h : Gc U) : (∃ a, vk_R RX11 139 "n is not 1 .. 5000" a U) := h.2.2.2.2.2.2.2.2.2.2.2.2.2.2.2.2.2.2.2.2.2.2.2.2.2.2.2.2.1
theorem Gc.t141 {U : State} (h : Gc U) : (∃ a, vk_R RX11 141 "k is below 0" a U) := h.2.2.2.2.2.2.2.2.2.2.2.2.2.2.2.2.2.2.2.2.2.2.2.2.2.2.2.2.2.1
theorem Gc.t200 {U : State} (h : Gc U) : (∃ a, vk_R RX11 200 "there is no such list" a U) := h.2.2.2.2.2.2.2.2.2.2.2.2.2.2.2.2.2.2.2.2.2.2.2.2.2.2.2.2.2.2.1
theorem Gc.t203 {U : State} (h : Gc U) : (∃ a, vk_R RX11 203 "there are 24 lists" a U) := h.2.2.2.2.2.2.2.2.2.2.2.2.2.2.2.2.2.2.2.2.2.2.2.2.2.2.2.2.2.2.2.1
theorem Gc.t205 {U : State} (h : Gc U) : (∃ a, vk_R RX11 205 "op is not 0 .. 8" a U) := h.2.2.2.2.2.2.2.2.2.2.2.2.2.2.2.2.2.2.2.2.2.2.2.2.2.2.2.2.2.2.2.2.1
theorem Gc.t207 {U : State} (h : Gc U) : (∃ a, vk_R RX11 207 "cond is not 0 .. 3" a U) := h.2.2.2.2.2.2.2.2.2.2.2.2.2.2.2.2.2.2.2.2.2.2.2.2.2.2.2.2.2.2.2.2.2.1
theorem Gc.t209 {U : State} (h : Gc U) : (∃ a, vk_R RX11 209 "n is not 0 .. 400" a U) := h.2.2.2.2.2.2.2.2.2.2.2.2.2.2.2.2.2.2.2.2.2.2.2.2.2.2.2.2.2.2.2.2.2.2.1
theorem Gc.t40 {U : State} (h : Gc U) : (∃ a, vk_R RX11 40 "kind is not 0 or 1" a U) := h.2.2.2.2.2.2.2.2.2.2.2.2.2.2.2.2.2.2.2.2.2.2.2.2.2.2.2.2.2.2.2.2.2.2.2.1
theorem Gc.t50 {U : State} (h : Gc U) : (∃ a, vk_R RX11 50 "THE ROW is full" a U) := h.2.2.2.2.2.2.2.2.2.2.2.2.2.2.2.2.2.2.2.2.2.2.2.2.2.2.2.2.2.2.2.2.2.2.2.2
theorem Gc.warm {s U : State} (hW : s.WarmedH U.vm) (h : Gc s) : Gc U := ⟨va_Nw.warmD hW h.seekD, va_Nw.warmM hW h.dbn, va_Nw.warmM hW h.rck, va_Nw.warmM hW h.mt2, va_Nw.warmM hW h.mt8, va_Nw.warmM hW h.mt10, va_Nw.warmM hW h.meterI, va_Nw.warmF hW h.used, va_Nw.warmF hW h.metF, va_AO.moved hW.alike h.over, va_Nw.warmC hW h.cX0, va_Nw.warmC hW h.cX1, va_Nw.warmC hW h.cX2, va_Nw.warmC hW h.cX3, va_Nw.warmC hW h.cX4, va_Nw.warmC hW h.cX7, va_Nw.warmC hW h.cX8, va_Nw.warmC hW h.cX9, va_Nw.warmC hW h.cX10, va_Nw.warmC hW h.xIOO, va_Nw.warmC hW h.xIAE, va_Nw.warmC hW h.xUOE, va_Nw.warmC hW h.clJ, va_Nw.warmC hW h.clB, va_Nw.warmD hW h.dR, va_Nw.warmD hW h.dE, va_Nw.warmD hW h.dT, h.t120.elim (fun a h9 => ⟨a, vk_R.warm hW h9⟩), h.t139.elim (fun a h9 => ⟨a, vk_R.warm hW h9⟩), h.t141.elim (fun a h9 => ⟨a, vk_R.warm hW h9⟩), h.t200.elim (fun a h9 => ⟨a, vk_R.warm hW h9⟩), h.t203.elim (fun a h9 => ⟨a, vk_R.warm hW h9⟩), h.t205.elim (fun a h9 => ⟨a, vk_R.warm hW h9⟩), h.t207.elim (fun a h9 => ⟨a, vk_R.warm hW h9⟩), h.t209.elim (fun a h9 => ⟨a, vk_R.warm hW h9⟩), h.t40.elim (fun a h9 => ⟨a, vk_R.warm hW h9⟩), h.t50.elim (fun a h9 => ⟨a, vk_R.warm hW h9⟩)⟩
theorem Gc.same {u U : State} (hv : u.vm = U.vm) (h : Gc u) : Gc U := ⟨va_Nw.same rfl hv h.seekD, va_Nw.same rfl hv h.dbn, va_Nw.same rfl hv h.rck, va_Nw.same rfl hv h.mt2, va_Nw.same rfl hv h.mt8, va_Nw.same rfl hv h.mt10, va_Nw.same rfl hv h.meterI, va_Nw.same rfl hv h.used, va_Nw.same rfl hv h.metF, va_AO.moved (by rw [hv]; exact Vm.Alike.refl _) h.over, va_Nw.same rfl hv h.cX0, va_Nw.same rfl hv h.cX1, va_Nw.same rfl hv h.cX2, va_Nw.same rfl hv h.cX3, va_Nw.same rfl hv h.cX4, va_Nw.same rfl hv h.cX7, va_Nw.same rfl hv h.cX8, va_Nw.same rfl hv h.cX9, va_Nw.same rfl hv h.cX10, va_Nw.same rfl hv h.xIOO, va_Nw.same rfl hv h.xIAE, va_Nw.same rfl hv h.xUOE, va_Nw.same rfl hv h.clJ, va_Nw.same rfl hv h.clB, va_Nw.same rfl hv h.dR, va_Nw.same rfl hv h.dE, va_Nw.same rfl hv h.dT, h.t120.elim (fun a h9 => ⟨a, vk_R.same hv.symm h9⟩), h.t139.elim (fun a h9 => ⟨a, vk_R.same hv.symm h9⟩), h.t141.elim (fun a h9 => ⟨a, vk_R.same hv.symm h9⟩), h.t200.elim (fun a h9 => ⟨a, vk_R.same hv.symm h9⟩), h.t203.elim (fun a h9 => ⟨a, vk_R.same hv.symm h9⟩), h.t205.elim (fun a h9 => ⟨a, vk_R.same hv.symm h9⟩), h.t207.elim (fun a h9 => ⟨a, vk_R.same hv.symm h9⟩), h.t209.elim (fun a h9 => ⟨a, vk_R.same hv.symm h9⟩), h.t40.elim (fun a h9 => ⟨a, vk_R.same hv.symm h9⟩), h.t50.elim (fun a h9 => ⟨a, vk_R.same hv.symm h9⟩)⟩
abbrev cPre (dC : Nat → ClassId) (dI : Nat → Nat → Nat) (sh : Sh) (ci : Nat → Nat → Int32) (ai : Nat → Nat → Int32) (al : Nat → Nat → Int64) (sz : Nat) (U : State) : Prop := U.heap.size = sz ∧ va_P (dC, dI) vwCl (cW sh ci ai al) U.heap ∧ cK dC dI sh U ∧ va_D (fun _ => True) (cW sh ci ai al) ∧ Gc U
abbrev cB (dC : Nat → ClassId) (dI : Nat → Nat → Nat) (sh : Sh) (A : Nat → Prop) (u : CSt) (t : State) : Prop := va_P (dC, dI) vwCl (cW sh u.1 u.2.1 u.2.2) t.heap ∧ cK dC dI sh t ∧ va_D A (cW sh u.1 u.2.1 u.2.2)
def cI (Q : Int32 → (Nat → Nat → Int32) → (Nat → Nat → Int32) → (Nat → Nat → Int64) → Prop) : Int32 → CSt → Prop := fun r u => Q r u.1 u.2.1 u.2.2
def cV (Q : (Nat → Nat → Int32) → (Nat → Nat → Int32) → (Nat → Nat → Int64) → Prop) : CSt → Prop := fun u => Q u.1 u.2.1 u.2.2
def cJ (Q : Int64 → (Nat → Nat → Int32) → (Nat → Nat → Int32) → (Nat → Nat → Int64) → Prop) : Int64 → CSt → Prop := fun r u => Q r u.1 u.2.1 u.2.2
section CB
variable {p : Program} {l : Launch} {e : Env} {R : Room} {s : State} {m : MethodId} {args : Array Value} {below : List Frame} {meth : Method} {c : Code} {H : Heap} {locs : List Loc} {cells slots : Nat} {QQ : State → Prop}
variable {cc : ByteArray} {pc : Nat} {ls : Array Slot} {rest : List Value} {A : Nat → Prop} {H0 : Heap} {dC : Nat → ClassId} {dI : Nat → Nat → Nat} {sh : Sh} {ci : Nat → Nat → Int32} {ai : Nat → Nat → Int32} {al : Nat → Nat → Int64}
variable {y x : MethodName} {bytes : ByteArray} {maxL nL n index : Nat} {ret : Option FieldType} {ws : List Cond} {rm : Room} {As st : List Value} {own : String}
theorem c_get {ref C : String} {T : u_T} {N K : Nat} {q : Nat} (hexec : p.tables.exec = Jvm.exec) (hb : c.code = cc) (hts : ∀ w ∈ WC, w.before args s = true) (hin : ∀ w ∈ u_ws C T N, w ∈ WC) (hown : s.vm.findClass own = some m.cls) (hK : cK dC dI sh s) (hP : va_P (dC, dI) vwCl (cW sh ci ai al) H) (hq : q ∈ sL sh) (hk : sK sh q = K) (hK20 : K < 20) (hc : vwCl[K]? = some (C, T, N)) (k : Nat) (hkN : k < N) (hlink : (Cond.fieldLink own index ref (T k).2.1 (T k).2.2.1).before args s = true) (hsame : ∀ x, s.fieldFound? (T k).1 (T k).2.1 (T k).2.2.1 = some x → s.fieldFound? ref (T k).2.1 (T k).2.2.1 = some x) {v : Value} (hv : (cFs K (sR sh q) (sJ sh q) (ci q))[k]? = some v) (hdg : decode cc pc = .ok (.getfield index, 3)) (kk : W p l e R s m args below meth c H locs cells slots QQ (F0 m (pc + 3) ls (v :: rest))) : W p l e R s m args below meth c H locs cells slots QQ (F0 m pc ls (.ref q :: rest)) := by
  obtain ⟨q0, e0⟩ := c_at (ci := ci) (ai := ai) (al := al) hq (cE_o hk hK20)
  exact va_get hexec hb hts hin hown hK.1 hP q0 e0 hc k hkN hlink hsame hv hdg kk
theorem c_put {ref C : String} {T : u_T} {N K : Nat} {q : Nat} {z : Int32} (hexec : p.tables.exec = Jvm.exec) (hb : c.code = cc) (hts : ∀ w ∈ WC, w.before args s = true) (hin : ∀ w ∈ u_ws C T N, w ∈ WC) (ty0 : Nat → FieldType) (hty : ∀ k, k < N → parseFieldDescriptor (T k).2.2.1 = some (ty0 k)) (hnm : ∀ a, a < N → ∀ b, b < N → a ≠ b → (T a).2.1 ≠ (T b).2.1) (hown : s.vm.findClass own = some m.cls) (hK : cK dC dI sh s) (hP : va_P (dC, dI) vwCl (cW sh ci ai al) H) (hD : va_D A (cW sh ci ai al)) (hS : va_S A H0 H locs) (hq : q ∈ sL sh) (hk : sK sh q = K) (hK20 : K < 20) (hc : vwCl[K]? = some (C, T, N)) (k : Nat) (hkN : k < N) (hlink : (Cond.fieldLink own index ref (T k).2.1 (T k).2.2.1).before args s = true) (hsame : ∀ x, s.fieldFound? (T k).1 (T k).2.1 (T k).2.2.1 = some x → s.fieldFound? ref (T k).2.1 (T k).2.2.1 = some x) (hfin : (T k).2.2.2 = false) (hd : parseFieldDescriptor (T k).2.2.1 = some .int) (hlen : k < (cFs K (sR sh q) (sJ sh q) (ci q)).length) (hset : (cFs K (sR sh q) (sJ sh q) (ci q)).set k (.int z) = cFs K (sR sh q) (sJ sh q) (va_up (ci q) k z)) (hdg : decode cc pc = .ok (.putfield index, 3))
    (kk : ∀ (H1 : Heap) (locs1 : List Loc), va_P (dC, dI) vwCl (cW sh (va_up ci q (va_up (ci q) k z)) ai al) H1 → va_D A (cW sh (va_up ci q (va_up (ci q) k z)) ai al) → va_S A H0 H1 locs1 → W p l e R s m args below meth c H1 locs1 cells slots QQ (F0 m (pc + 3) ls rest)) : W p l e R s m args below meth c H locs cells slots QQ (F0 m pc ls (.int z :: .ref q :: rest)) := by
  have hE := cE_o (ci := ci) (ai := ai) (al := al) hk hK20
  obtain ⟨q0, e0⟩ := c_at (ci := ci) (ai := ai) (al := al) hq hE
  have hs2 := c_set (ci2 := va_up ci q (va_up (ci q) k z)) (ai2 := ai) (al2 := al) hD hq e0 hE (e2 := .inr (K, (cFs K (sR sh q) (sJ sh q) (ci q)).set k (.int z))) (by rw [cE_o hk hK20, va_up_self, hset]) (fun a ha => by unfold cE; rw [va_up_ne _ _ ha])
  refine va_put (v := .int z) (ty := .int) hexec hb hts hin ty0 hty hnm hown hK.1 hP hD hS q0 e0 hc k hkN hlink hsame hfin hd rfl rfl hlen hdg (fun H1 locs1 h1 h2 h3 => ?_)
  rw [hs2] at h1 h2
  exact kk H1 locs1 h1 h2 h3
theorem c_getZ0 {q q1 : Nat} (hexec : p.tables.exec = Jvm.exec) (hb : c.code = cc) (hts : ∀ w ∈ WC, w.before args s = true) (hown : s.vm.findClass own = some m.cls) (hK : cK dC dI sh s) (hP : va_P (dC, dI) vwCl (cW sh ci ai al) H) (hq : q ∈ sL sh) (hz : isZ (sK sh q)) (hr : sR sh q 0 = some q1) (hlink : (Cond.fieldLink own index "NeededLists$LazyList" "meter" "LNeededLists$Meter;").before args s = true) (hdg : decode cc pc = .ok (.getfield index, 3)) (kk : W p l e R s m args below meth c H locs cells slots QQ (F0 m (pc + 3) ls (.ref q1 :: rest))) : W p l e R s m args below meth c H locs cells slots QQ (F0 m pc ls (.ref q :: rest)) := by
  rcases hz with e | e | e | e | e | e | e | e | e
  · exact c_get (C := RX0) (T := TX0) (N := 9) (K := 0) hexec hb hts hinX0 hown hK hP hq e (by decide) rfl 0 (by decide) hlink (fun _ h9 => h9) (by show some (va_rf (sR sh q 0)) = _; rw [hr]; rfl) hdg kk
  · exact c_get (C := RX1) (T := TX1) (N := 9) (K := 1) hexec hb hts hinX1 hown hK hP hq e (by decide) rfl 0 (by decide) hlink (fun _ h9 => h9) (by show some (va_rf (sR sh q 0)) = _; rw [hr]; rfl) hdg kk
  · exact c_get (C := RX2) (T := TX2) (N := 9) (K := 2) hexec hb hts hinX2 hown hK hP hq e (by decide) rfl 0 (by decide) hlink (fun _ h9 => h9) (by show some (va_rf (sR sh q 0)) = _; rw [hr]; rfl) hdg kk
  · exact c_get (C := RX3) (T := TX3) (N := 7) (K := 3) hexec hb hts hinX3 hown hK hP hq e (by decide) rfl 0 (by decide) hlink (fun _ h9 => h9) (by show some (va_rf (sR sh q 0)) = _; rw [hr]; rfl) hdg kk
  · exact c_get (C := RX4) (T := TX4) (N := 7) (K := 4) hexec hb hts hinX4 hown hK hP hq e (by decide) rfl 0 (by decide) hlink (fun _ h9 => h9) (by show some (va_rf (sR sh q 0)) = _; rw [hr]; rfl) hdg kk
  · exact c_get (C := RX7) (T := TX7) (N := 7) (K := 6) hexec hb hts hinX7 hown hK hP hq e (by decide) rfl 0 (by decide) hlink (fun _ h9 => h9) (by show some (va_rf (sR sh q 0)) = _; rw [hr]; rfl) hdg kk
  · exact c_get (C := RX8) (T := TX8) (N := 9) (K := 7) hexec hb hts hinX8 hown hK hP hq e (by decide) rfl 0 (by decide) hlink (fun _ h9 => h9) (by show some (va_rf (sR sh q 0)) = _; rw [hr]; rfl) hdg kk
  · exact c_get (C := RX9) (T := TX9) (N := 8) (K := 8) hexec hb hts hinX9 hown hK hP hq e (by decide) rfl 0 (by decide) hlink (fun _ h9 => h9) (by show some (va_rf (sR sh q 0)) = _; rw [hr]; rfl) hdg kk
  · exact c_get (C := RX10) (T := TX10) (N := 9) (K := 9) hexec hb hts hinX10 hown hK hP hq e (by decide) rfl 0 (by decide) hlink (fun _ h9 => h9) (by show some (va_rf (sR sh q 0)) = _; rw [hr]; rfl) hdg kk
theorem c_getZ1 {q q1 : Nat} (hexec : p.tables.exec = Jvm.exec) (hb : c.code = cc) (hts : ∀ w ∈ WC, w.before args s = true) (hown : s.vm.findClass own = some m.cls) (hK : cK dC dI sh s) (hP : va_P (dC, dI) vwCl (cW sh ci ai al) H) (hq : q ∈ sL sh) (hz : isZ (sK sh q)) (hr : sR sh q 1 = some q1) (hlink : (Cond.fieldLink own index "NeededLists$LazyList" "numbers" "[J").before args s = true) (hdg : decode cc pc = .ok (.getfield index, 3)) (kk : W p l e R s m args below meth c H locs cells slots QQ (F0 m (pc + 3) ls (.ref q1 :: rest))) : W p l e R s m args below meth c H locs cells slots QQ (F0 m pc ls (.ref q :: rest)) := by
  rcases hz with e | e | e | e | e | e | e | e | e
  · exact c_get (C := RX0) (T := TX0) (N := 9) (K := 0) hexec hb hts hinX0 hown hK hP hq e (by decide) rfl 1 (by decide) hlink (fun _ h9 => h9) (by show some (va_rf (sR sh q 1)) = _; rw [hr]; rfl) hdg kk
  · exact c_get (C := RX1) (T := TX1) (N := 9) (K := 1) hexec hb hts hinX1 hown hK hP hq e (by decide) rfl 1 (by decide) hlink (fun _ h9 => h9) (by show some (va_rf (sR sh q 1)) = _; rw [hr]; rfl) hdg kk
  · exact c_get (C := RX2) (T := TX2) (N := 9) (K := 2) hexec hb hts hinX2 hown hK hP hq e (by decide) rfl 1 (by decide) hlink (fun _ h9 => h9) (by show some (va_rf (sR sh q 1)) = _; rw [hr]; rfl) hdg kk
  · exact c_get (C := RX3) (T := TX3) (N := 7) (K := 3) hexec hb hts hinX3 hown hK hP hq e (by decide) rfl 1 (by decide) hlink (fun _ h9 => h9) (by show some (va_rf (sR sh q 1)) = _; rw [hr]; rfl) hdg kk
  · exact c_get (C := RX4) (T := TX4) (N := 7) (K := 4) hexec hb hts hinX4 hown hK hP hq e (by decide) rfl 1 (by decide) hlink (fun _ h9 => h9) (by show some (va_rf (sR sh q 1)) = _; rw [hr]; rfl) hdg kk
  · exact c_get (C := RX7) (T := TX7) (N := 7) (K := 6) hexec hb hts hinX7 hown hK hP hq e (by decide) rfl 1 (by decide) hlink (fun _ h9 => h9) (by show some (va_rf (sR sh q 1)) = _; rw [hr]; rfl) hdg kk
  · exact c_get (C := RX8) (T := TX8) (N := 9) (K := 7) hexec hb hts hinX8 hown hK hP hq e (by decide) rfl 1 (by decide) hlink (fun _ h9 => h9) (by show some (va_rf (sR sh q 1)) = _; rw [hr]; rfl) hdg kk
  · exact c_get (C := RX9) (T := TX9) (N := 8) (K := 8) hexec hb hts hinX9 hown hK hP hq e (by decide) rfl 1 (by decide) hlink (fun _ h9 => h9) (by show some (va_rf (sR sh q 1)) = _; rw [hr]; rfl) hdg kk
  · exact c_get (C := RX10) (T := TX10) (N := 9) (K := 9) hexec hb hts hinX10 hown hK hP hq e (by decide) rfl 1 (by decide) hlink (fun _ h9 => h9) (by show some (va_rf (sR sh q 1)) = _; rw [hr]; rfl) hdg kk
theorem c_getZ2 {q q1 : Nat} (hexec : p.tables.exec = Jvm.exec) (hb : c.code = cc) (hts : ∀ w ∈ WC, w.before args s = true) (hown : s.vm.findClass own = some m.cls) (hK : cK dC dI sh s) (hP : va_P (dC, dI) vwCl (cW sh ci ai al) H) (hq : q ∈ sL sh) (hz : isZ (sK sh q)) (hr : sR sh q 2 = some q1) (hlink : (Cond.fieldLink own index "NeededLists$LazyList" "marks" "[B").before args s = true) (hdg : decode cc pc = .ok (.getfield index, 3)) (kk : W p l e R s m args below meth c H locs cells slots QQ (F0 m (pc + 3) ls (.ref q1 :: rest))) : W p l e R s m args below meth c H locs cells slots QQ (F0 m pc ls (.ref q :: rest)) := by
  rcases hz with e | e | e | e | e | e | e | e | e
  · exact c_get (C := RX0) (T := TX0) (N := 9) (K := 0) hexec hb hts hinX0 hown hK hP hq e (by decide) rfl 2 (by decide) hlink (fun _ h9 => h9) (by show some (va_rf (sR sh q 2)) = _; rw [hr]; rfl) hdg kk
  · exact c_get (C := RX1) (T := TX1) (N := 9) (K := 1) hexec hb hts hinX1 hown hK hP hq e (by decide) rfl 2 (by decide) hlink (fun _ h9 => h9) (by show some (va_rf (sR sh q 2)) = _; rw [hr]; rfl) hdg kk
  · exact c_get (C := RX2) (T := TX2) (N := 9) (K := 2) hexec hb hts hinX2 hown hK hP hq e (by decide) rfl 2 (by decide) hlink (fun _ h9 => h9) (by show some (va_rf (sR sh q 2)) = _; rw [hr]; rfl) hdg kk
  · exact c_get (C := RX3) (T := TX3) (N := 7) (K := 3) hexec hb hts hinX3 hown hK hP hq e (by decide) rfl 2 (by decide) hlink (fun _ h9 => h9) (by show some (va_rf (sR sh q 2)) = _; rw [hr]; rfl) hdg kk
  · exact c_get (C := RX4) (T := TX4) (N := 7) (K := 4) hexec hb hts hinX4 hown hK hP hq e (by decide) rfl 2 (by decide) hlink (fun _ h9 => h9) (by show some (va_rf (sR sh q 2)) = _; rw [hr]; rfl) hdg kk
  · exact c_get (C := RX7) (T := TX7) (N := 7) (K := 6) hexec hb hts hinX7 hown hK hP hq e (by decide) rfl 2 (by decide) hlink (fun _ h9 => h9) (by show some (va_rf (sR sh q 2)) = _; rw [hr]; rfl) hdg kk
  · exact c_get (C := RX8) (T := TX8) (N := 9) (K := 7) hexec hb hts hinX8 hown hK hP hq e (by decide) rfl 2 (by decide) hlink (fun _ h9 => h9) (by show some (va_rf (sR sh q 2)) = _; rw [hr]; rfl) hdg kk
  · exact c_get (C := RX9) (T := TX9) (N := 8) (K := 8) hexec hb hts hinX9 hown hK hP hq e (by decide) rfl 2 (by decide) hlink (fun _ h9 => h9) (by show some (va_rf (sR sh q 2)) = _; rw [hr]; rfl) hdg kk
  · exact c_get (C := RX10) (T := TX10) (N := 9) (K := 9) hexec hb hts hinX10 hown hK hP hq e (by decide) rfl 2 (by decide) hlink (fun _ h9 => h9) (by show some (va_rf (sR sh q 2)) = _; rw [hr]; rfl) hdg kk
theorem c_getZ3 {q : Nat} (hexec : p.tables.exec = Jvm.exec) (hb : c.code = cc) (hts : ∀ w ∈ WC, w.before args s = true) (hown : s.vm.findClass own = some m.cls) (hK : cK dC dI sh s) (hP : va_P (dC, dI) vwCl (cW sh ci ai al) H) (hq : q ∈ sL sh) (hz : isZ (sK sh q)) (hlink : (Cond.fieldLink own index "NeededLists$LazyList" "met" "I").before args s = true) (hdg : decode cc pc = .ok (.getfield index, 3)) (kk : W p l e R s m args below meth c H locs cells slots QQ (F0 m (pc + 3) ls (.int (ci q 3) :: rest))) : W p l e R s m args below meth c H locs cells slots QQ (F0 m pc ls (.ref q :: rest)) := by
  rcases hz with e | e | e | e | e | e | e | e | e
  · exact c_get (C := RX0) (T := TX0) (N := 9) (K := 0) hexec hb hts hinX0 hown hK hP hq e (by decide) rfl 3 (by decide) hlink (fun _ h9 => h9) rfl hdg kk
  · exact c_get (C := RX1) (T := TX1) (N := 9) (K := 1) hexec hb hts hinX1 hown hK hP hq e (by decide) rfl 3 (by decide) hlink (fun _ h9 => h9) rfl hdg kk
  · exact c_get (C := RX2) (T := TX2) (N := 9) (K := 2) hexec hb hts hinX2 hown hK hP hq e (by decide) rfl 3 (by decide) hlink (fun _ h9 => h9) rfl hdg kk
  · exact c_get (C := RX3) (T := TX3) (N := 7) (K := 3) hexec hb hts hinX3 hown hK hP hq e (by decide) rfl 3 (by decide) hlink (fun _ h9 => h9) rfl hdg kk
  · exact c_get (C := RX4) (T := TX4) (N := 7) (K := 4) hexec hb hts hinX4 hown hK hP hq e (by decide) rfl 3 (by decide) hlink (fun _ h9 => h9) rfl hdg kk
  · exact c_get (C := RX7) (T := TX7) (N := 7) (K := 6) hexec hb hts hinX7 hown hK hP hq e (by decide) rfl 3 (by decide) hlink (fun _ h9 => h9) rfl hdg kk
  · exact c_get (C := RX8) (T := TX8) (N := 9) (K := 7) hexec hb hts hinX8 hown hK hP hq e (by decide) rfl 3 (by decide) hlink (fun _ h9 => h9) rfl hdg kk
  · exact c_get (C := RX9) (T := TX9) (N := 8) (K := 8) hexec hb hts hinX9 hown hK hP hq e (by decide) rfl 3 (by decide) hlink (fun _ h9 => h9) rfl hdg kk
  · exact c_get (C := RX10) (T := TX10) (N := 9) (K := 9) hexec hb hts hinX10 hown hK hP hq e (by decide) rfl 3 (by decide) hlink (fun _ h9 => h9) rfl hdg kk
theorem c_getZ4 {q : Nat} (hexec : p.tables.exec = Jvm.exec) (hb : c.code = cc) (hts : ∀ w ∈ WC, w.before args s = true) (hown : s.vm.findClass own = some m.cls) (hK : cK dC dI sh s) (hP : va_P (dC, dI) vwCl (cW sh ci ai al) H) (hq : q ∈ sL sh) (hz : isZ (sK sh q)) (hlink : (Cond.fieldLink own index "NeededLists$LazyList" "close" "I").before args s = true) (hdg : decode cc pc = .ok (.getfield index, 3)) (kk : W p l e R s m args below meth c H locs cells slots QQ (F0 m (pc + 3) ls (.int (ci q 4) :: rest))) : W p l e R s m args below meth c H locs cells slots QQ (F0 m pc ls (.ref q :: rest)) := by
  rcases hz with e | e | e | e | e | e | e | e | e
  · exact c_get (C := RX0) (T := TX0) (N := 9) (K := 0) hexec hb hts hinX0 hown hK hP hq e (by decide) rfl 4 (by decide) hlink (fun _ h9 => h9) rfl hdg kk
  · exact c_get (C := RX1) (T := TX1) (N := 9) (K := 1) hexec hb hts hinX1 hown hK hP hq e (by decide) rfl 4 (by decide) hlink (fun _ h9 => h9) rfl hdg kk
  · exact c_get (C := RX2) (T := TX2) (N := 9) (K := 2) hexec hb hts hinX2 hown hK hP hq e (by decide) rfl 4 (by decide) hlink (fun _ h9 => h9) rfl hdg kk
  · exact c_get (C := RX3) (T := TX3) (N := 7) (K := 3) hexec hb hts hinX3 hown hK hP hq e (by decide) rfl 4 (by decide) hlink (fun _ h9 => h9) rfl hdg kk
  · exact c_get (C := RX4) (T := TX4) (N := 7) (K := 4) hexec hb hts hinX4 hown hK hP hq e (by decide) rfl 4 (by decide) hlink (fun _ h9 => h9) rfl hdg kk
  · exact c_get (C := RX7) (T := TX7) (N := 7) (K := 6) hexec hb hts hinX7 hown hK hP hq e (by decide) rfl 4 (by decide) hlink (fun _ h9 => h9) rfl hdg kk
  · exact c_get (C := RX8) (T := TX8) (N := 9) (K := 7) hexec hb hts hinX8 hown hK hP hq e (by decide) rfl 4 (by decide) hlink (fun _ h9 => h9) rfl hdg kk
  · exact c_get (C := RX9) (T := TX9) (N := 8) (K := 8) hexec hb hts hinX9 hown hK hP hq e (by decide) rfl 4 (by decide) hlink (fun _ h9 => h9) rfl hdg kk
  · exact c_get (C := RX10) (T := TX10) (N := 9) (K := 9) hexec hb hts hinX10 hown hK hP hq e (by decide) rfl 4 (by decide) hlink (fun _ h9 => h9) rfl hdg kk
theorem c_putZ3 {q : Nat} {z : Int32} (hexec : p.tables.exec = Jvm.exec) (hb : c.code = cc) (hts : ∀ w ∈ WC, w.before args s = true) (hown : s.vm.findClass own = some m.cls) (hK : cK dC dI sh s) (hP : va_P (dC, dI) vwCl (cW sh ci ai al) H) (hD : va_D A (cW sh ci ai al)) (hS : va_S A H0 H locs) (hq : q ∈ sL sh) (hz : isZ (sK sh q)) (hlink : (Cond.fieldLink own index "NeededLists$LazyList" "met" "I").before args s = true) (hdg : decode cc pc = .ok (.putfield index, 3)) (kk : ∀ (H1 : Heap) (locs1 : List Loc), va_P (dC, dI) vwCl (cW sh (va_up ci q (va_up (ci q) 3 z)) ai al) H1 → va_D A (cW sh (va_up ci q (va_up (ci q) 3 z)) ai al) → va_S A H0 H1 locs1 → W p l e R s m args below meth c H1 locs1 cells slots QQ (F0 m (pc + 3) ls rest)) : W p l e R s m args below meth c H locs cells slots QQ (F0 m pc ls (.int z :: .ref q :: rest)) := by
  rcases hz with e | e | e | e | e | e | e | e | e
  · exact c_put (C := RX0) (T := TX0) (N := 9) (K := 0) hexec hb hts hinX0 tyX0 tyX0_ok nmX0 hown hK hP hD hS hq e (by decide) rfl 3 (by decide) hlink (fun _ h9 => h9) rfl (by decide +kernel) (Nat.le_of_ble_eq_true rfl) rfl hdg kk
  · exact c_put (C := RX1) (T := TX1) (N := 9) (K := 1) hexec hb hts hinX1 tyX1 tyX1_ok nmX1 hown hK hP hD hS hq e (by decide) rfl 3 (by decide) hlink (fun _ h9 => h9) rfl (by decide +kernel) (Nat.le_of_ble_eq_true rfl) rfl hdg kk
  · exact c_put (C := RX2) (T := TX2) (N := 9) (K := 2) hexec hb hts hinX2 tyX2 tyX2_ok nmX2 hown hK hP hD hS hq e (by decide) rfl 3 (by decide) hlink (fun _ h9 => h9) rfl (by decide +kernel) (Nat.le_of_ble_eq_true rfl) rfl hdg kk
  · exact c_put (C := RX3) (T := TX3) (N := 7) (K := 3) hexec hb hts hinX3 tyX3 tyX3_ok nmX3 hown hK hP hD hS hq e (by decide) rfl 3 (by decide) hlink (fun _ h9 => h9) rfl (by decide +kernel) (Nat.le_of_ble_eq_true rfl) rfl hdg kk
  · exact c_put (C := RX4) (T := TX4) (N := 7) (K := 4) hexec hb hts hinX4 tyX4 tyX4_ok nmX4 hown hK hP hD hS hq e (by decide) rfl 3 (by decide) hlink (fun _ h9 => h9) rfl (by decide +kernel) (Nat.le_of_ble_eq_true rfl) rfl hdg kk
  · exact c_put (C := RX7) (T := TX7) (N := 7) (K := 6) hexec hb hts hinX7 tyX7 tyX7_ok nmX7 hown hK hP hD hS hq e (by decide) rfl 3 (by decide) hlink (fun _ h9 => h9) rfl (by decide +kernel) (Nat.le_of_ble_eq_true rfl) rfl hdg kk
  · exact c_put (C := RX8) (T := TX8) (N := 9) (K := 7) hexec hb hts hinX8 tyX8 tyX8_ok nmX8 hown hK hP hD hS hq e (by decide) rfl 3 (by decide) hlink (fun _ h9 => h9) rfl (by decide +kernel) (Nat.le_of_ble_eq_true rfl) rfl hdg kk
  · exact c_put (C := RX9) (T := TX9) (N := 8) (K := 8) hexec hb hts hinX9 tyX9 tyX9_ok nmX9 hown hK hP hD hS hq e (by decide) rfl 3 (by decide) hlink (fun _ h9 => h9) rfl (by decide +kernel) (Nat.le_of_ble_eq_true rfl) rfl hdg kk
  · exact c_put (C := RX10) (T := TX10) (N := 9) (K := 9) hexec hb hts hinX10 tyX10 tyX10_ok nmX10 hown hK hP hD hS hq e (by decide) rfl 3 (by decide) hlink (fun _ h9 => h9) rfl (by decide +kernel) (Nat.le_of_ble_eq_true rfl) rfl hdg kk
theorem c_putZ4 {q : Nat} {z : Int32} (hexec : p.tables.exec = Jvm.exec) (hb : c.code = cc) (hts : ∀ w ∈ WC, w.before args s = true) (hown : s.vm.findClass own = some m.cls) (hK : cK dC dI sh s) (hP : va_P (dC, dI) vwCl (cW sh ci ai al) H) (hD : va_D A (cW sh ci ai al)) (hS : va_S A H0 H locs) (hq : q ∈ sL sh) (hz : isZ (sK sh q)) (hlink : (Cond.fieldLink own index "NeededLists$LazyList" "close" "I").before args s = true) (hdg : decode cc pc = .ok (.putfield index, 3)) (kk : ∀ (H1 : Heap) (locs1 : List Loc), va_P (dC, dI) vwCl (cW sh (va_up ci q (va_up (ci q) 4 z)) ai al) H1 → va_D A (cW sh (va_up ci q (va_up (ci q) 4 z)) ai al) → va_S A H0 H1 locs1 → W p l e R s m args below meth c H1 locs1 cells slots QQ (F0 m (pc + 3) ls rest)) : W p l e R s m args below meth c H locs cells slots QQ (F0 m pc ls (.int z :: .ref q :: rest)) := by
  rcases hz with e | e | e | e | e | e | e | e | e
  · exact c_put (C := RX0) (T := TX0) (N := 9) (K := 0) hexec hb hts hinX0 tyX0 tyX0_ok nmX0 hown hK hP hD hS hq e (by decide) rfl 4 (by decide) hlink (fun _ h9 => h9) rfl (by decide +kernel) (Nat.le_of_ble_eq_true rfl) rfl hdg kk
  · exact c_put (C := RX1) (T := TX1) (N := 9) (K := 1) hexec hb hts hinX1 tyX1 tyX1_ok nmX1 hown hK hP hD hS hq e (by decide) rfl 4 (by decide) hlink (fun _ h9 => h9) rfl (by decide +kernel) (Nat.le_of_ble_eq_true rfl) rfl hdg kk
  · exact c_put (C := RX2) (T := TX2) (N := 9) (K := 2) hexec hb hts hinX2 tyX2 tyX2_ok nmX2 hown hK hP hD hS hq e (by decide) rfl 4 (by decide) hlink (fun _ h9 => h9) rfl (by decide +kernel) (Nat.le_of_ble_eq_true rfl) rfl hdg kk
  · exact c_put (C := RX3) (T := TX3) (N := 7) (K := 3) hexec hb hts hinX3 tyX3 tyX3_ok nmX3 hown hK hP hD hS hq e (by decide) rfl 4 (by decide) hlink (fun _ h9 => h9) rfl (by decide +kernel) (Nat.le_of_ble_eq_true rfl) rfl hdg kk
  · exact c_put (C := RX4) (T := TX4) (N := 7) (K := 4) hexec hb hts hinX4 tyX4 tyX4_ok nmX4 hown hK hP hD hS hq e (by decide) rfl 4 (by decide) hlink (fun _ h9 => h9) rfl (by decide +kernel) (Nat.le_of_ble_eq_true rfl) rfl hdg kk
  · exact c_put (C := RX7) (T := TX7) (N := 7) (K := 6) hexec hb hts hinX7 tyX7 tyX7_ok nmX7 hown hK hP hD hS hq e (by decide) rfl 4 (by decide) hlink (fun _ h9 => h9) rfl (by decide +kernel) (Nat.le_of_ble_eq_true rfl) rfl hdg kk
  · exact c_put (C := RX8) (T := TX8) (N := 9) (K := 7) hexec hb hts hinX8 tyX8 tyX8_ok nmX8 hown hK hP hD hS hq e (by decide) rfl 4 (by decide) hlink (fun _ h9 => h9) rfl (by decide +kernel) (Nat.le_of_ble_eq_true rfl) rfl hdg kk
  · exact c_put (C := RX9) (T := TX9) (N := 8) (K := 8) hexec hb hts hinX9 tyX9 tyX9_ok nmX9 hown hK hP hD hS hq e (by decide) rfl 4 (by decide) hlink (fun _ h9 => h9) rfl (by decide +kernel) (Nat.le_of_ble_eq_true rfl) rfl hdg kk
  · exact c_put (C := RX10) (T := TX10) (N := 9) (K := 9) hexec hb hts hinX10 tyX10 tyX10_ok nmX10 hown hK hP hD hS hq e (by decide) rfl 4 (by decide) hlink (fun _ h9 => h9) rfl (by decide +kernel) (Nat.le_of_ble_eq_true rfl) rfl hdg kk
theorem c_iald {q : Nat} {i : Int32} (hexec : p.tables.exec = Jvm.exec) (hb : c.code = cc) (hK : cK dC dI sh s) (hP : va_P (dC, dI) vwCl (cW sh ci ai al) H) (hq : q ∈ sL sh) (hk : sK sh q = 20) (hi : vp_in i (sN sh q)) (hdg : decode cc pc = .ok (.iaload, 1)) (kk : W p l e R s m args below meth c H locs cells slots QQ (F0 m (pc + 1) ls (.int (ai q i.toNatClampNeg) :: rest))) : W p l e R s m args below meth c H locs cells slots QQ (F0 m pc ls (.int i :: .ref q :: rest)) := by
  obtain ⟨q0, e0⟩ := c_at (ci := ci) (ai := ai) (al := al) hq (cE_i (Or.inl hk))
  exact va_iald hexec hb (hK.with (((hK.2 q hq).1) hk)) hP q0 0 e0 rfl hi hdg kk
theorem c_bald {q : Nat} {i : Int32} (hexec : p.tables.exec = Jvm.exec) (hb : c.code = cc) (hK : cK dC dI sh s) (hP : va_P (dC, dI) vwCl (cW sh ci ai al) H) (hq : q ∈ sL sh) (hk : sK sh q = 21) (hi : vp_in i (sN sh q)) (hdg : decode cc pc = .ok (.baload, 1)) (kk : W p l e R s m args below meth c H locs cells slots QQ (F0 m (pc + 1) ls (.int (ai q i.toNatClampNeg) :: rest))) : W p l e R s m args below meth c H locs cells slots QQ (F0 m pc ls (.int i :: .ref q :: rest)) := by
  obtain ⟨q0, e0⟩ := c_at (ci := ci) (ai := ai) (al := al) hq (cE_i (Or.inr hk))
  exact va_bald hexec hb (hK.with (((hK.2 q hq).2.1) hk)) hP q0 0 e0 rfl hi hdg kk
theorem c_lald {q : Nat} {i : Int32} (hexec : p.tables.exec = Jvm.exec) (hb : c.code = cc) (hK : cK dC dI sh s) (hP : va_P (dC, dI) vwCl (cW sh ci ai al) H) (hq : q ∈ sL sh) (hk : sK sh q = 22) (hi : vp_in i (sN sh q)) (hdg : decode cc pc = .ok (.laload, 1)) (kk : W p l e R s m args below meth c H locs cells slots QQ (F0 m (pc + 1) ls (.long (al q i.toNatClampNeg) :: rest))) : W p l e R s m args below meth c H locs cells slots QQ (F0 m pc ls (.int i :: .ref q :: rest)) := by
  obtain ⟨q0, e0⟩ := c_at (ci := ci) (ai := ai) (al := al) hq (cE_l hk)
  exact va_lald hexec hb (hK.with (((hK.2 q hq).2.2.1) hk)) hP q0 0 e0 rfl hi hdg kk
theorem c_aald {q : Nat} {i : Int32} (hexec : p.tables.exec = Jvm.exec) (hb : c.code = cc) (hK : cK dC dI sh s) (hP : va_P (dC, dI) vwCl (cW sh ci ai al) H) (hq : q ∈ sL sh) (hk : sK sh q = 23) (hi : vp_in i (sN sh q)) (hdg : decode cc pc = .ok (.aaload, 1)) (kk : W p l e R s m args below meth c H locs cells slots QQ (F0 m (pc + 1) ls (va_rf (sQ sh q i.toNatClampNeg) :: rest))) : W p l e R s m args below meth c H locs cells slots QQ (F0 m pc ls (.int i :: .ref q :: rest)) := by
  obtain ⟨q0, e0⟩ := c_at (ci := ci) (ai := ai) (al := al) hq (cE_q hk)
  exact va_aldq hexec hb (hK.with (((hK.2 q hq).2.2.2) hk)) hP q0 0 e0 rfl hi hdg kk
theorem c_iast {q : Nat} {i : Int32} {x : Int32} (hexec : p.tables.exec = Jvm.exec) (hb : c.code = cc) (hK : cK dC dI sh s) (hP : va_P (dC, dI) vwCl (cW sh ci ai al) H) (hD : va_D A (cW sh ci ai al)) (hS : va_S A H0 H locs) (hq : q ∈ sL sh) (hk : sK sh q = 20) (hi : vp_in i (sN sh q)) (hdg : decode cc pc = .ok (.iastore, 1)) (kk : ∀ (H1 : Heap) (locs1 : List Loc), va_P (dC, dI) vwCl (cW sh ci (va_up ai q (upd (ai q) i.toNatClampNeg x)) al) H1 → va_D A (cW sh ci (va_up ai q (upd (ai q) i.toNatClampNeg x)) al) → va_S A H0 H1 locs1 → W p l e R s m args below meth c H1 locs1 cells slots QQ (F0 m (pc + 1) ls rest)) : W p l e R s m args below meth c H locs cells slots QQ (F0 m pc ls (.int x :: .int i :: .ref q :: rest)) := by
  have hE := cE_i (ci := ci) (ai := ai) (al := al) (Or.inl hk)
  obtain ⟨q0, e0⟩ := c_at (ci := ci) (ai := ai) (al := al) hq hE
  have hs2 := c_set (ci2 := ci) (ai2 := (va_up ai q (upd (ai q) i.toNatClampNeg x))) (al2 := al) hD hq e0 hE (e2 := .inl (sA sh q, sN sh q, .inl (upd (ai q) i.toNatClampNeg x))) (by rw [cE_i (Or.inl hk), va_up_self]) (fun a ha => by unfold cE; rw [va_up_ne _ _ ha])
  refine va_iast hexec hb (hK.with (((hK.2 q hq).1) hk)) hP hD hS q0 0 e0 rfl hi hdg (fun H1 locs1 h1 h2 h3 => ?_)
  rw [hs2] at h1 h2
  exact kk H1 locs1 h1 h2 h3
theorem c_bast {q : Nat} {i : Int32} {x : Int32} (hexec : p.tables.exec = Jvm.exec) (hb : c.code = cc) (hK : cK dC dI sh s) (hP : va_P (dC, dI) vwCl (cW sh ci ai al) H) (hD : va_D A (cW sh ci ai al)) (hS : va_S A H0 H locs) (hq : q ∈ sL sh) (hk : sK sh q = 21) (hi : vp_in i (sN sh q)) (hdg : decode cc pc = .ok (.bastore, 1)) (kk : ∀ (H1 : Heap) (locs1 : List Loc), va_P (dC, dI) vwCl (cW sh ci (va_up ai q (upd (ai q) i.toNatClampNeg (vp_nar .byte x))) al) H1 → va_D A (cW sh ci (va_up ai q (upd (ai q) i.toNatClampNeg (vp_nar .byte x))) al) → va_S A H0 H1 locs1 → W p l e R s m args below meth c H1 locs1 cells slots QQ (F0 m (pc + 1) ls rest)) : W p l e R s m args below meth c H locs cells slots QQ (F0 m pc ls (.int x :: .int i :: .ref q :: rest)) := by
  have hE := cE_i (ci := ci) (ai := ai) (al := al) (Or.inr hk)
  obtain ⟨q0, e0⟩ := c_at (ci := ci) (ai := ai) (al := al) hq hE
  have hs2 := c_set (ci2 := ci) (ai2 := (va_up ai q (upd (ai q) i.toNatClampNeg (vp_nar .byte x)))) (al2 := al) hD hq e0 hE (e2 := .inl (sA sh q, sN sh q, .inl (upd (ai q) i.toNatClampNeg (vp_nar .byte x)))) (by rw [cE_i (Or.inr hk), va_up_self]) (fun a ha => by unfold cE; rw [va_up_ne _ _ ha])
  refine va_bast hexec hb (hK.with (((hK.2 q hq).2.1) hk)) hP hD hS q0 0 e0 rfl hi hdg (fun H1 locs1 h1 h2 h3 => ?_)
  rw [hs2] at h1 h2
  exact kk H1 locs1 h1 h2 h3
theorem c_last {q : Nat} {i : Int32} {x : Int64} (hexec : p.tables.exec = Jvm.exec) (hb : c.code = cc) (hK : cK dC dI sh s) (hP : va_P (dC, dI) vwCl (cW sh ci ai al) H) (hD : va_D A (cW sh ci ai al)) (hS : va_S A H0 H locs) (hq : q ∈ sL sh) (hk : sK sh q = 22) (hi : vp_in i (sN sh q)) (hdg : decode cc pc = .ok (.lastore, 1)) (kk : ∀ (H1 : Heap) (locs1 : List Loc), va_P (dC, dI) vwCl (cW sh ci ai (va_up al q (vp_updL (al q) i.toNatClampNeg x))) H1 → va_D A (cW sh ci ai (va_up al q (vp_updL (al q) i.toNatClampNeg x))) → va_S A H0 H1 locs1 → W p l e R s m args below meth c H1 locs1 cells slots QQ (F0 m (pc + 1) ls rest)) : W p l e R s m args below meth c H locs cells slots QQ (F0 m pc ls (.long x :: .int i :: .ref q :: rest)) := by
  have hE := cE_l (ci := ci) (ai := ai) (al := al) hk
  obtain ⟨q0, e0⟩ := c_at (ci := ci) (ai := ai) (al := al) hq hE
  have hs2 := c_set (ci2 := ci) (ai2 := ai) (al2 := (va_up al q (vp_updL (al q) i.toNatClampNeg x))) hD hq e0 hE (e2 := .inl (sA sh q, sN sh q, .inr (.inl (vp_updL (al q) i.toNatClampNeg x)))) (by rw [cE_l hk, va_up_self]) (fun a ha => by unfold cE; rw [va_up_ne _ _ ha])
  refine va_last hexec hb (hK.with (((hK.2 q hq).2.2.1) hk)) hP hD hS q0 0 e0 rfl hi hdg (fun H1 locs1 h1 h2 h3 => ?_)
  rw [hs2] at h1 h2
  exact kk H1 locs1 h1 h2 h3
theorem c_alen {q : Nat} (hexec : p.tables.exec = Jvm.exec) (hb : c.code = cc) (hK : cK dC dI sh s) (hP : va_P (dC, dI) vwCl (cW sh ci ai al) H) (hq : q ∈ sL sh) (hk : sK sh q = 20 ∨ sK sh q = 21 ∨ sK sh q = 22 ∨ sK sh q = 23) (hdg : decode cc pc = .ok (.arraylength, 1)) (kk : W p l e R s m args below meth c H locs cells slots QQ (F0 m (pc + 1) ls (.int (nI (sN sh q)) :: rest))) : W p l e R s m args below meth c H locs cells slots QQ (F0 m pc ls (.ref q :: rest)) := by
  rcases hk with hk | hk | hk | hk
  · obtain ⟨q0, e0⟩ := c_at (ci := ci) (ai := ai) (al := al) hq (cE_i (Or.inl hk))
    exact va_alen hexec hb (hK.with (((hK.2 q hq).1) hk)) hP q0 0 e0 rfl rfl hdg kk
  · obtain ⟨q0, e0⟩ := c_at (ci := ci) (ai := ai) (al := al) hq (cE_i (Or.inr hk))
    exact va_alen hexec hb (hK.with (((hK.2 q hq).2.1) hk)) hP q0 0 e0 rfl rfl hdg kk
  · obtain ⟨q0, e0⟩ := c_at (ci := ci) (ai := ai) (al := al) hq (cE_l hk)
    exact va_alen hexec hb (hK.with (((hK.2 q hq).2.2.1) hk)) hP q0 0 e0 rfl rfl hdg kk
  · obtain ⟨q0, e0⟩ := c_at (ci := ci) (ai := ai) (al := al) hq (cE_q hk)
    exact va_alen hexec hb (hK.with (((hK.2 q hq).2.2.2) hk)) hP q0 0 e0 rfl rfl hdg kk
theorem c_blind {av : List Value} {sz : Nat} : FrameBlind (va_Pc av (cPre dC dI sh ci ai al sz)) := fun a U g mk q => by obtain ⟨q0, q1, qP, qK, qD, qG⟩ := q; exact ⟨q0, q1, qP, cK.moved (u := U) (U := U.calling g mk a) (Vm.Alike.refl U.vm) qK, qD, Gc.same (u := U) (U := U.calling g mk a) rfl qG⟩
theorem c_free (hD : va_D A (cW sh ci ai al)) (hS : va_S A H0 H locs) (hA : ∀ q : Nat, H0.size ≤ q → A q) : ∀ q, va_A (cW sh ci ai al) H.size q → A q := fun q h => h.elim (fun ⟨k, e, h1⟩ => hD.2 k (q, e) h1) (fun h1 => hA q (Nat.le_trans hS.1 h1))
theorem c_preS (hK : cK dC dI sh s) (hP : va_P (dC, dI) vwCl (cW sh ci ai al) H) (hD : va_D A (cW sh ci ai al)) (hG : Gc s) : PreS s H (va_Pc As (cPre dC dI sh ci ai al H.size)) As := ⟨c_blind, fun U hU hW => ⟨rfl, by rw [hU], by rw [hU]; exact hP, cK.moved hW.alike hK, hD.weaken (fun _ _ _ _ => trivial), Gc.warm hW hG⟩⟩
theorem c_preV {q K : Nat} {vc : vw_C} (hK : cK dC dI sh s) (hP : va_P (dC, dI) vwCl (cW sh ci ai al) H) (hD : va_D A (cW sh ci ai al)) (hG : Gc s) (hq : q ∈ sL sh) (hk : sK sh q = K) (hK20 : K < 20) (hc : vwCl[K]? = some vc) : PreV s H vc.1 q (va_Pc (.ref q :: As) (cPre dC dI sh ci ai al H.size)) As := by
  obtain ⟨q0, e0⟩ := c_at (ci := ci) (ai := ai) (al := al) hq (cE_o hk hK20)
  exact ⟨c_blind, va_recv hK.1 hP hc e0, fun U hU hW => ⟨rfl, by rw [hU], by rw [hU]; exact hP, cK.moved hW.alike hK, hD.weaken (fun _ _ _ _ => trivial), Gc.warm hW hG⟩⟩
theorem c_endi {Q : Int32 → (Nat → Nat → Int32) → (Nat → Nat → Int32) → (Nat → Nat → Int64) → Prop} {av : Array Value} (hr : va_Run p l e R s m args below meth c H locs cells slots 0 0 (F0 m pc ls st) rest (va_Qi (S := CSt) (cI Q) (cB dC dI sh (va_A (cW sh ci ai al) H.size)) (va_A (cW sh ci ai al) H.size) av) (va_A (cW sh ci ai al) H.size)) (hD : va_D A (cW sh ci ai al)) (hS : va_S A H0 H locs) (hA : ∀ q : Nat, H0.size ≤ q → A q) (kk : ∀ (r : Int32) (ci' : Nat → Nat → Int32) (ai' : Nat → Nat → Int32) (al' : Nat → Nat → Int64) (H1 : Heap) (locs1 : List Loc), Q r ci' ai' al' → va_P (dC, dI) vwCl (cW sh ci' ai' al') H1 → va_D A (cW sh ci' ai' al') → va_S A H0 H1 locs1 → W p l e R s m args below meth c H1 locs1 cells slots QQ (F0 m (pc + 3) ls (.int r :: rest))) : W p l e R s m args below meth c H locs cells slots QQ (F0 m pc ls st) := by
  have hFc := c_free hD hS hA
  refine va_calli hr hS (fun q _ h => hFc q h) hFc (fun r u t H1 locs ht hvm hw hB hz1 hk1 hS => ?_)
  obtain ⟨hP1, hK1, hD1⟩ := hB
  rw [ht] at hP1
  exact kk r u.1 u.2.1 u.2.2 H1 locs hw hP1 (hD1.weaken (fun _ q _ h => hFc q.1 h)) hS
theorem c_endl {Q : Int64 → (Nat → Nat → Int32) → (Nat → Nat → Int32) → (Nat → Nat → Int64) → Prop} {av : Array Value} (hr : va_Run p l e R s m args below meth c H locs cells slots 0 0 (F0 m pc ls st) rest (va_Ql (S := CSt) (cJ Q) (cB dC dI sh (va_A (cW sh ci ai al) H.size)) (va_A (cW sh ci ai al) H.size) av) (va_A (cW sh ci ai al) H.size)) (hD : va_D A (cW sh ci ai al)) (hS : va_S A H0 H locs) (hA : ∀ q : Nat, H0.size ≤ q → A q) (kk : ∀ (r : Int64) (ci' : Nat → Nat → Int32) (ai' : Nat → Nat → Int32) (al' : Nat → Nat → Int64) (H1 : Heap) (locs1 : List Loc), Q r ci' ai' al' → va_P (dC, dI) vwCl (cW sh ci' ai' al') H1 → va_D A (cW sh ci' ai' al') → va_S A H0 H1 locs1 → W p l e R s m args below meth c H1 locs1 cells slots QQ (F0 m (pc + 3) ls (.long r :: rest))) : W p l e R s m args below meth c H locs cells slots QQ (F0 m pc ls st) := by
  have hFc := c_free hD hS hA
  refine va_calll hr hS (fun q _ h => hFc q h) hFc (fun r u t H1 locs ht hvm hw hB hz1 hk1 hS => ?_)
  obtain ⟨hP1, hK1, hD1⟩ := hB
  rw [ht] at hP1
  exact kk r u.1 u.2.1 u.2.2 H1 locs hw hP1 (hD1.weaken (fun _ q _ h => hFc q.1 h)) hS
theorem c_endv {Q : (Nat → Nat → Int32) → (Nat → Nat → Int32) → (Nat → Nat → Int64) → Prop} {av : Array Value} (hr : va_Run p l e R s m args below meth c H locs cells slots 0 0 (F0 m pc ls st) rest (va_Qv (S := CSt) (cV Q) (cB dC dI sh (va_A (cW sh ci ai al) H.size)) (va_A (cW sh ci ai al) H.size) av) (va_A (cW sh ci ai al) H.size)) (hD : va_D A (cW sh ci ai al)) (hS : va_S A H0 H locs) (hA : ∀ q : Nat, H0.size ≤ q → A q) (kk : ∀ (ci' : Nat → Nat → Int32) (ai' : Nat → Nat → Int32) (al' : Nat → Nat → Int64) (H1 : Heap) (locs1 : List Loc), Q ci' ai' al' → va_P (dC, dI) vwCl (cW sh ci' ai' al') H1 → va_D A (cW sh ci' ai' al') → va_S A H0 H1 locs1 → W p l e R s m args below meth c H1 locs1 cells slots QQ (F0 m (pc + 3) ls (rest))) : W p l e R s m args below meth c H locs cells slots QQ (F0 m pc ls st) := by
  have hFc := c_free hD hS hA
  refine va_callv hr hS (fun q _ h => hFc q h) hFc (fun u t H1 locs ht hvm hw hB hz1 hk1 hS => ?_)
  obtain ⟨hP1, hK1, hD1⟩ := hB
  rw [ht] at hP1
  exact kk u.1 u.2.1 u.2.2 H1 locs hw hP1 (hD1.weaken (fun _ q _ h => hFc q.1 h)) hS
theorem r_endi {Q : Int32 → Prop} {av : Array Value} {W0 : va_W} {D : va_G} {cl : List vw_C} (hr : va_Run p l e R s m args below meth c H locs cells slots 0 0 (F0 m pc ls st) rest (va_Qi (S := Unit) (fun r _ => Q r) (fun _ _ => True) (va_A [] H.size) av) (va_A [] H.size)) (hP : va_P D cl W0 H) (hS : va_S A H0 H locs) (hA : ∀ q : Nat, H0.size ≤ q → A q) (kk : ∀ (r : Int32) (H1 : Heap) (locs1 : List Loc), Q r → va_P D cl W0 H1 → va_S A H0 H1 locs1 → W p l e R s m args below meth c H1 locs1 cells slots QQ (F0 m (pc + 3) ls (.int r :: rest))) : W p l e R s m args below meth c H locs cells slots QQ (F0 m pc ls st) := by
  have hFc := va_free (ws := []) (wc := []) nd_0 hS hA [] rfl
  exact va_calli hr hS (fun q _ h => hFc q h) hFc (fun r u t H1 locs ht hvm hw hB hz1 hk1 hS => kk r H1 locs hw (nd_keep hP hk1) hS)
theorem r_endl {Q : Int64 → Prop} {av : Array Value} {W0 : va_W} {D : va_G} {cl : List vw_C} (hr : va_Run p l e R s m args below meth c H locs cells slots 0 0 (F0 m pc ls st) rest (va_Ql (S := Unit) (fun r _ => Q r) (fun _ _ => True) (va_A [] H.size) av) (va_A [] H.size)) (hP : va_P D cl W0 H) (hS : va_S A H0 H locs) (hA : ∀ q : Nat, H0.size ≤ q → A q) (kk : ∀ (r : Int64) (H1 : Heap) (locs1 : List Loc), Q r → va_P D cl W0 H1 → va_S A H0 H1 locs1 → W p l e R s m args below meth c H1 locs1 cells slots QQ (F0 m (pc + 3) ls (.long r :: rest))) : W p l e R s m args below meth c H locs cells slots QQ (F0 m pc ls st) := by
  have hFc := va_free (ws := []) (wc := []) nd_0 hS hA [] rfl
  exact va_calll hr hS (fun q _ h => hFc q h) hFc (fun r u t H1 locs ht hvm hw hB hz1 hk1 hS => kk r H1 locs hw (nd_keep hP hk1) hS)
theorem r_endr {Q : Nat → Prop} {av : Array Value} {W0 : va_W} {D : va_G} {cl : List vw_C} (hr : va_Run p l e R s m args below meth c H locs cells slots 0 0 (F0 m pc ls st) rest (va_Qr (S := Unit) (fun _ => True) (fun _ a _ => Q a) (va_A [] H.size) av) (va_A [] H.size)) (hP : va_P D cl W0 H) (hS : va_S A H0 H locs) (hA : ∀ q : Nat, H0.size ≤ q → A q) (kk : ∀ (r : Nat) (H1 : Heap) (locs1 : List Loc), Q r → va_P D cl W0 H1 → va_S A H0 H1 locs1 → W p l e R s m args below meth c H1 locs1 cells slots QQ (F0 m (pc + 3) ls (.ref r :: rest))) : W p l e R s m args below meth c H locs cells slots QQ (F0 m pc ls st) := by
  have hFc := va_free (ws := []) (wc := []) nd_0 hS hA [] rfl
  exact va_callr hr hS (fun q _ h => hFc q h) hFc (fun u r t H1 locs ht hvm hw hB hz1 hk1 hS => kk r H1 locs hB (nd_keep hP hk1) hS)
theorem g_U {W : List Cond} (hg : GoodIn W W) {c1 : Cond} {own : String} {idx : Nat} {C owner : String} {x y : MethodName} (h1 : Cond.methodLink own idx x ∈ W) (h2 : Cond.sameMethod x.cls owner x.name x.desc ∈ W) (h3 : Cond.selects C x y ∈ W) (h4 : Cond.instanceMethod y ∈ W) (h5 : Cond.initialized y.cls ∈ W) (h6 : c1 ∈ W) : GoodIn W (va_wsU own idx C owner x y (c1 :: W)) := by
  intro w hw
  unfold va_wsU at hw
  simp only [List.cons_append, List.nil_append, List.mem_cons] at hw
  rcases hw with rfl | rfl | rfl | rfl | rfl | rfl | hw
  · exact hg _ h1
  · exact hg _ h2
  · exact hg _ h3
  · exact hg _ h4
  · exact hg _ h5
  · exact hg _ h6
  · exact hg _ hw
theorem g_O {W : List Cond} (hg : GoodIn W W) {c1 : Cond} {own : String} {idx : Nat} {C owner : String} {x y : MethodName} (h1 : Cond.methodLink own idx x ∈ W) (h2 : Cond.sameMethod x.cls owner x.name x.desc ∈ W) (h7 : Cond.instanceMethod ⟨owner, x.name, x.desc⟩ ∈ W) (h3 : Cond.selects C x y ∈ W) (h4 : Cond.instanceMethod y ∈ W) (h5 : Cond.initialized y.cls ∈ W) (h6 : c1 ∈ W) : GoodIn W (va_wsO own idx C owner x y (c1 :: W)) := by
  intro w hw
  unfold va_wsO at hw
  simp only [List.cons_append, List.nil_append, List.mem_cons] at hw
  rcases hw with rfl | rfl | rfl | rfl | rfl | rfl | rfl | hw
  · exact hg _ h1
  · exact hg _ h2
  · exact hg _ h7
  · exact hg _ h3
  · exact hg _ h4
  · exact hg _ h5
  · exact hg _ h6
  · exact hg _ hw
theorem c_runZ {q : Nat} {Qc : Array Value → State → Outcome → State → Prop} {free : Addr → Prop} (S : CallFix p m c cc nL s args WC own) (hM : Met l y (Cond.code y bytes maxL ret :: WC) rm (va_Pc (.ref q :: As) (cPre dC dI sh ci ai al H.size)) Qc 0 0 free) (hl : Cond.methodLink own index x ∈ WC) (hs : Cond.sameMethod x.cls "NeededLists$LazyList" x.name x.desc ∈ WC) (hi : Cond.instanceMethod y ∈ WC) (hn0 : Cond.initialized y.cls ∈ WC) (hco : Cond.code y bytes maxL ret ∈ WC) (hX0 : Cond.selects RX0 x y ∈ WC) (hX1 : Cond.selects RX1 x y ∈ WC) (hX2 : Cond.selects RX2 x y ∈ WC) (hX3 : Cond.selects RX3 x y ∈ WC) (hX4 : Cond.selects RX4 x y ∈ WC) (hX7 : Cond.selects RX7 x y ∈ WC) (hX8 : Cond.selects RX8 x y ∈ WC) (hX9 : Cond.selects RX9 x y ∈ WC) (hX10 : Cond.selects RX10 x y ∈ WC) (hyx : y = ⟨"NeededLists$LazyList", x.name, x.desc⟩) (hd : (parseMethodDescriptor x.desc).map (fun d => d.parameters.length) = some n) (hrc : rm.cells = 0) (hrs : rm.slots = 0) (hR : rm.frames + 1 ≤ R.frames ∧ 8 + (maxL + 11) + rm.locals ≤ R.locals) (hK : cK dC dI sh s) (hP : va_P (dC, dI) vwCl (cW sh ci ai al) H) (hD : va_D A (cW sh ci ai al)) (hG : Gc s) (hq : q ∈ sL sh) (hz : isZ (sK sh q)) (hn : As.length = n) (hsize : ls.size = nL) (hst : st = As.reverse ++ .ref q :: rest) (hW : (rest.map fun v => v.category).sum ≤ 8) (hf : cells ≤ R.cells ∧ slots ≤ R.slots) (hdg : decode cc pc = .ok (.invokevirtual index, 3)) : va_Run p l e R s m args below meth c H locs cells slots 0 0 (F0 m pc ls st) rest (Qc (Value.ref q :: As).toArray) free := by
  have hts := S.2.2.2.2
  rcases hz with e | e | e | e | e | e | e | e | e
  · exact va_runU (C := RX0) (owner := "NeededLists$LazyList") S hM (va_cwU n hts (g_U gdC hl hs hX0 hi hn0 hco) rfl hrc hrs hyx ⟨by decide, by decide, hd⟩ hR) (c_preV (vc := (RX0, TX0, 9)) hK hP hD hG hq e (by decide) rfl) rfl hn hsize hst (lv_room hW) hdg hf
  · exact va_runU (C := RX1) (owner := "NeededLists$LazyList") S hM (va_cwU n hts (g_U gdC hl hs hX1 hi hn0 hco) rfl hrc hrs hyx ⟨by decide, by decide, hd⟩ hR) (c_preV (vc := (RX1, TX1, 9)) hK hP hD hG hq e (by decide) rfl) rfl hn hsize hst (lv_room hW) hdg hf
  · exact va_runU (C := RX2) (owner := "NeededLists$LazyList") S hM (va_cwU n hts (g_U gdC hl hs hX2 hi hn0 hco) rfl hrc hrs hyx ⟨by decide, by decide, hd⟩ hR) (c_preV (vc := (RX2, TX2, 9)) hK hP hD hG hq e (by decide) rfl) rfl hn hsize hst (lv_room hW) hdg hf
  · exact va_runU (C := RX3) (owner := "NeededLists$LazyList") S hM (va_cwU n hts (g_U gdC hl hs hX3 hi hn0 hco) rfl hrc hrs hyx ⟨by decide, by decide, hd⟩ hR) (c_preV (vc := (RX3, TX3, 7)) hK hP hD hG hq e (by decide) rfl) rfl hn hsize hst (lv_room hW) hdg hf
  · exact va_runU (C := RX4) (owner := "NeededLists$LazyList") S hM (va_cwU n hts (g_U gdC hl hs hX4 hi hn0 hco) rfl hrc hrs hyx ⟨by decide, by decide, hd⟩ hR) (c_preV (vc := (RX4, TX4, 7)) hK hP hD hG hq e (by decide) rfl) rfl hn hsize hst (lv_room hW) hdg hf
  · exact va_runU (C := RX7) (owner := "NeededLists$LazyList") S hM (va_cwU n hts (g_U gdC hl hs hX7 hi hn0 hco) rfl hrc hrs hyx ⟨by decide, by decide, hd⟩ hR) (c_preV (vc := (RX7, TX7, 7)) hK hP hD hG hq e (by decide) rfl) rfl hn hsize hst (lv_room hW) hdg hf
  · exact va_runU (C := RX8) (owner := "NeededLists$LazyList") S hM (va_cwU n hts (g_U gdC hl hs hX8 hi hn0 hco) rfl hrc hrs hyx ⟨by decide, by decide, hd⟩ hR) (c_preV (vc := (RX8, TX8, 9)) hK hP hD hG hq e (by decide) rfl) rfl hn hsize hst (lv_room hW) hdg hf
  · exact va_runU (C := RX9) (owner := "NeededLists$LazyList") S hM (va_cwU n hts (g_U gdC hl hs hX9 hi hn0 hco) rfl hrc hrs hyx ⟨by decide, by decide, hd⟩ hR) (c_preV (vc := (RX9, TX9, 8)) hK hP hD hG hq e (by decide) rfl) rfl hn hsize hst (lv_room hW) hdg hf
  · exact va_runU (C := RX10) (owner := "NeededLists$LazyList") S hM (va_cwU n hts (g_U gdC hl hs hX10 hi hn0 hco) rfl hrc hrs hyx ⟨by decide, by decide, hd⟩ hR) (c_preV (vc := (RX10, TX10, 9)) hK hP hD hG hq e (by decide) rfl) rfl hn hsize hst (lv_room hW) hdg hf
end CB
theorem ofWF {l : Launch} {y : MethodName} {ws ws' : List Cond} {rm : Room} {Pc : Array Value → State → Prop} {Qc : Array Value → State → Outcome → State → Prop} {mc ms : Nat} {free : Addr → Prop} {cc : ByteArray} {maxL : Nat} {ret : Option FieldType} (hy : plainFor y = true) (hw : ws = Cond.code y cc maxL ret :: ws')
    (body : ∀ p e s m args below meth c s₁, BodyLoose p l y (headSpec ws rm) cc maxL ret e s m args below meth c s₁ → c.maxLocals = maxL → Pc args s →
      W p l e (headSpec ws rm).room s m args below meth c s.heap [] 0 0 (MQ below Qc args s mc ms free) (entryFrame m args maxL)) : Met l y ws rm Pc Qc mc ms free := by
  refine MetFree.of_bodySF (code := cc) (maxLocals := maxL) (ret := ret) hy ?_ ?_
  · intro args s m h hn
    obtain ⟨meth, c, h1, h2, h3, h4, h5, h6, -, -⟩ := Cond.code_spec hn (atoms_spec (ws := ws) h _ (by rw [hw]; exact List.mem_cons_self))
    exact ⟨meth, c, h1, h2, h3, h4, h5, h6⟩
  · intro p e s m args below meth c s₁ B hml hP _
    have hh0 : s₁.heap = s.heap := by rw [B.state]; rfl
    obtain ⟨t, a1, o, b1, b2, b3⟩ := body p e s m args below meth c s₁ B hml hP s₁ hh0 (Stand.of_body B)
    exact ⟨t, o, a1, b1, b2, ⟨b3.1, b3.2⟩⟩
abbrev wmX5_reach : List Cond := .code yX5_reach cX5_reach 5 (some .int) :: WC
abbrev wmX5_work : List Cond := .code yX5_work cX5_work 4 (some .int) :: WC
abbrev wmX5_number : List Cond := .code yX5_number cX5_number 3 (some .long) :: WC
abbrev wmX5_isWorked : List Cond := .code yX5_isWorked cX5_isWorked 3 (some .boolean) :: WC
abbrev GM (l : Launch) (dC : Nat → ClassId) (dI : Nat → Nat → Nat) (sh : Sh) (y : MethodName) (ws : List Cond) (rm : Room) (G : (Nat → Nat → Int32) → (Nat → Nat → Int32) → (Nat → Nat → Int64) → Nat → Int32 → (Int32 → (Nat → Nat → Int32) → (Nat → Nat → Int32) → (Nat → Nat → Int64) → Prop) → Prop) : Prop := ∀ (ci : Nat → Nat → Int32) (ai : Nat → Nat → Int32) (al : Nat → Nat → Int64) (q : Nat) (k : Int32) (Q : Int32 → (Nat → Nat → Int32) → (Nat → Nat → Int32) → (Nat → Nat → Int64) → Prop), G ci ai al q k Q → ∀ sz : Nat, Met l y ws rm (va_Pc [.ref q, .int k] (cPre dC dI sh ci ai al sz)) (va_Qi (S := CSt) (cI Q) (cB dC dI sh (va_A (cW sh ci ai al) sz)) (va_A (cW sh ci ai al) sz)) 0 0 (va_A (cW sh ci ai al) sz)
theorem g_C {W : List Cond} (hg : GoodIn W W) {c1 : Cond} (h5 : c1 ∈ W) : GoodIn W (c1 :: W) := by
  intro w hw
  simp only [List.mem_cons] at hw
  rcases hw with rfl | hw
  · exact hg _ h5
  · exact hg _ hw
