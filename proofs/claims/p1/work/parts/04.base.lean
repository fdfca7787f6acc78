/-- NeededLists' fields -/
abbrev xF (hm h1 h2 h3 : Nat) (mc rl st : Int32) : List Value := [.ref hm, .ref h1, .ref h2, .ref h3, .int mc, .int rl, .int st, .int 0, .int 0]
/-- the reference's fields -/
abbrev mF (a : Nat → Nat) (l m p t : Int32) : List Value := [.int l, .ref (a 1), .ref (a 2), .ref (a 3), .ref (a 4), .ref (a 5), .ref (a 6), .ref (a 7), .ref (a 8), .ref (a 9), .ref (a 10), .ref (a 11), .int m, .ref (a 13), .ref (a 14), .int p, .int 0, .int 0, .int 0, .int t, .ref (a 20), .ref (a 21), .long 0, .int 0, .int 0, .long 0, .int 0, .int 0, .int 0, .int 0, .long 0, .ref (a 31)]
def bOp (op : Int32) : Int32 := if op < 0 then 0 else if 8 < op then 0 else 1
def kOp (op : Int32) : Int32 := if op < 0 then 1 else if op ≤ 8 then 0 else 1
def kHole (k : Int32) : Int32 := if k = 0 then 0 else if k = 1 then 0 else 1
def kSteps (n : Int32) : Int32 := if n < 1 then 1 else if n ≤ 5000 then 0 else 1
theorem kOp_ok {op : Int32} (h : ¬ bOp op = 0) : kOp op = 0 := by
  unfold bOp at h; unfold kOp
  by_cases h1 : op < 0
  · rw [if_pos h1] at h; exact absurd rfl h
  · rw [if_neg h1] at h ⊢
    by_cases h2 : 8 < op
    · rw [if_pos h2] at h; exact absurd rfl h
    · rw [if_pos (Int32.not_lt.mp h2)]
theorem kOp_no {op : Int32} (h : bOp op = 0) : kOp op = 1 := by
  unfold bOp at h; unfold kOp
  by_cases h1 : op < 0
  · rw [if_pos h1]
  · rw [if_neg h1] at h ⊢
    by_cases h2 : 8 < op
    · rw [if_neg (fun h3 => Int32.not_lt.mpr h3 h2)]
    · rw [if_neg h2] at h; exact absurd h (by decide)
theorem nd_0 {A : Nat → Prop} : va_D A ([] : va_W) := ⟨fun i j p q h => by simp at h, fun k q h => by simp at h⟩
theorem nd_P0 {D : va_G} {cl : List vw_C} {H : Heap} : va_P D cl [] H := fun k q h => by simp at h
theorem nd_keep {D : va_G} {cl : List vw_C} {ws : va_W} {H H1 : Heap} (hP : va_P D cl ws H) (hk : ∀ q : Nat, q < H.size → ¬ va_A [] H.size q → H1[q]? = H[q]?) : va_P D cl ws H1 :=
  hP.kept (fun k q h => hk q.1 (hP k q h).lt (fun hA => by
    rcases hA with ⟨k2, e, h2⟩ | h2
    · simp at h2
    · exact absurd ((hP k q h).lt) (Nat.not_lt.mpr h2)))
theorem nd_drop {A0 : Nat → Prop} {D : va_G} {cl : List vw_C} {ws wc wr : va_W} {H H1 : Heap} (hP : va_P D cl ws H) (hD : va_D A0 ws) (isC isR : List Nat) (hC : isC.map (fun i => ws[i]?) = wc.map some) (hR : isR.map (fun i => ws[i]?) = wr.map some) (hn : va_nd isR = true) (hdis : ∀ i ∈ isR, i ∉ isC)
    (hk : ∀ q : Nat, q < H.size → ¬ va_A wc H.size q → H1[q]? = H[q]?) (hF : ∀ q, va_A wc H.size q → A0 q) : va_P D cl wr H1 ∧ va_D A0 wr := by
  have h := va_join (w1 := []) hP hD isC isR hC hR hn hdis hk hF nd_P0 nd_0
  rw [List.append_nil] at h
  exact h
theorem nd_in {i : Int32} {n : Nat} (h : ¬ (i < 0 ∨ n ≤ i.toNatClampNeg)) : vp_in i n := h
theorem nd_aint (n : Nat) : ∀ cA : ClassId, vp_cell cA (n, .inl (fun _ => 0)) = arrV cA n (fun _ => defaultValue .int) := fun _ => rfl
theorem nd_abyte (n : Nat) : ∀ cA : ClassId, vp_cell cA (n, .inl (fun _ => 0)) = arrV cA n (fun _ => defaultValue .byte) := fun _ => rfl
theorem nd_along (n : Nat) : ∀ cA : ClassId, vp_cell cA (n, .inr (.inl (fun _ => 0))) = arrV cA n (fun _ => defaultValue .long) := fun _ => rfl
def Gz (A : Nat → Prop) (U : State) (H : Heap) : Prop := vx_Zq Bundle.tN "UNASSIGNED_STACK" Bundle.steD A U H ∧ vx_Zq Bundle.tN "SUPPRESSED_SENTINEL" Bundle.listD A U H
theorem Gz.moved {A : Nat → Prop} {u U : State} {H : Heap} (hvm : u.vm.Alike U.vm) (h : Gz A u H) : Gz A U H := ⟨vx_Zq.moved hvm h.1, vx_Zq.moved hvm h.2⟩
theorem Gz.step {A B : Nat → Prop} {s U : State} {H : Heap} {locs : List Loc} (h : Gz A s s.heap) (hS : va_S A s.heap H locs) (hF : ∀ q, B q → A q) (hU : U.heap = H) (hW : s.vm.Alike U.vm) : Gz B U U.heap := by
  rw [hU]
  exact Gz.moved hW ⟨(h.1.kept hS.2.1).narrow hF, (h.2.kept hS.2.1).narrow hF⟩
/-- what the class's methods need beyond good words: nest mates' links, the array over LazyList, castables, the texts of exceptions -/
def Gw (U : State) : Prop := va_Nw (.methodLinkNest RX11 11 yX6_init "NeededLists") U ∧ va_Nw (.fieldLinkNest RX11 188 "NeededLists$Meter" "used" "I" "NeededLists") U ∧ va_AO RX5 U ∧ va_Nw (.castable RX3 RX5) U ∧ va_Nw (.castable RX0 RX5) U ∧ va_Nw (.castable "java/lang/IndexOutOfBoundsException" "java/lang/IndexOutOfBoundsException") U ∧ va_Nw (.castable "java/lang/IllegalArgumentException" "java/lang/IllegalArgumentException") U ∧ (∃ a, vk_R RX11 200 "there is no such list" a U) ∧ (∃ a, vk_R RX11 40 "kind is not 0 or 1" a U) ∧ (∃ a, vk_R RX11 205 "op is not 0 .. 8" a U) ∧ (∃ a, vk_R RX11 139 "n is not 1 .. 5000" a U) ∧ va_Nw (.declares ⟨"java/lang/RuntimeException", "<init>", "(Ljava/lang/String;)V"⟩) U ∧ va_Nw (.declares ⟨"java/lang/Exception", "<init>", "(Ljava/lang/String;)V"⟩) U ∧ va_Nw (.declares ⟨"java/lang/Throwable", "<init>", "(Ljava/lang/String;)V"⟩) U
theorem Gw.meterInit {U : State} (h : Gw U) : va_Nw (.methodLinkNest RX11 11 yX6_init "NeededLists") U := h.1
theorem Gw.spentLink {U : State} (h : Gw U) : va_Nw (.fieldLinkNest RX11 188 "NeededLists$Meter" "used" "I" "NeededLists") U := h.2.1
theorem Gw.over {U : State} (h : Gw U) : va_AO RX5 U := h.2.2.1
theorem Gw.cGiven {U : State} (h : Gw U) : va_Nw (.castable RX3 RX5) U := h.2.2.2.1
theorem Gw.cChained {U : State} (h : Gw U) : va_Nw (.castable RX0 RX5) U := h.2.2.2.2.1
theorem Gw.cIOO {U : State} (h : Gw U) : va_Nw (.castable "java/lang/IndexOutOfBoundsException" "java/lang/IndexOutOfBoundsException") U := h.2.2.2.2.2.1
theorem Gw.cIAE {U : State} (h : Gw U) : va_Nw (.castable "java/lang/IllegalArgumentException" "java/lang/IllegalArgumentException") U := h.2.2.2.2.2.2.1
theorem Gw.t200 {U : State} (h : Gw U) : ∃ a, vk_R RX11 200 "there is no such list" a U := h.2.2.2.2.2.2.2.1
theorem Gw.t40 {U : State} (h : Gw U) : ∃ a, vk_R RX11 40 "kind is not 0 or 1" a U := h.2.2.2.2.2.2.2.2.1
theorem Gw.t205 {U : State} (h : Gw U) : ∃ a, vk_R RX11 205 "op is not 0 .. 8" a U := h.2.2.2.2.2.2.2.2.2.1
theorem Gw.t139 {U : State} (h : Gw U) : ∃ a, vk_R RX11 139 "n is not 1 .. 5000" a U := h.2.2.2.2.2.2.2.2.2.2.1
theorem Gw.dR {U : State} (h : Gw U) : va_Nw (.declares ⟨"java/lang/RuntimeException", "<init>", "(Ljava/lang/String;)V"⟩) U := h.2.2.2.2.2.2.2.2.2.2.2.1
theorem Gw.dE {U : State} (h : Gw U) : va_Nw (.declares ⟨"java/lang/Exception", "<init>", "(Ljava/lang/String;)V"⟩) U := h.2.2.2.2.2.2.2.2.2.2.2.2.1
theorem Gw.dT {U : State} (h : Gw U) : va_Nw (.declares ⟨"java/lang/Throwable", "<init>", "(Ljava/lang/String;)V"⟩) U := h.2.2.2.2.2.2.2.2.2.2.2.2.2
theorem Gw.warm {s U : State} (hW : s.WarmedH U.vm) (h : Gw s) : Gw U := by
  obtain ⟨h1, h2, h3, h4, h5, h6, h7, ⟨a8, h8⟩, ⟨a9, h9⟩, ⟨a10, h10⟩, ⟨a11, h11⟩, h12, h13, h14⟩ := h
  exact ⟨va_Nw.warmM hW h1, va_Nw.warmF hW h2, va_AO.moved hW.alike h3, va_Nw.warmC hW h4, va_Nw.warmC hW h5, va_Nw.warmC hW h6, va_Nw.warmC hW h7, ⟨a8, vk_R.warm hW h8⟩, ⟨a9, vk_R.warm hW h9⟩, ⟨a10, vk_R.warm hW h10⟩, ⟨a11, vk_R.warm hW h11⟩, va_Nw.warmD hW h12, va_Nw.warmD hW h13, va_Nw.warmD hW h14⟩
theorem Gw.same {u U : State} (hv : U.vm = u.vm) (h : Gw u) : Gw U := by
  obtain ⟨h1, h2, h3, h4, h5, h6, h7, ⟨a8, h8⟩, ⟨a9, h9⟩, ⟨a10, h10⟩, ⟨a11, h11⟩, h12, h13, h14⟩ := h
  exact ⟨va_Nw.same rfl hv.symm h1, va_Nw.same rfl hv.symm h2, va_AO.moved (by rw [hv]; exact Vm.Alike.refl u.vm) h3, va_Nw.same rfl hv.symm h4, va_Nw.same rfl hv.symm h5, va_Nw.same rfl hv.symm h6, va_Nw.same rfl hv.symm h7, ⟨a8, vk_R.same hv h8⟩, ⟨a9, vk_R.same hv h9⟩, ⟨a10, vk_R.same hv h10⟩, ⟨a11, vk_R.same hv h11⟩, va_Nw.same rfl hv.symm h12, va_Nw.same rfl hv.symm h13, va_Nw.same rfl hv.symm h14⟩
section Never
variable {p : Program} {l : Launch} {e : Env} {R : Room} {s : State} {m : MethodId} {args : Array Value} {below : List Frame} {meth : Method} {c : Code} {H : Heap} {locs : List Loc} {cells slots : Nat} {Q : State → Prop}
variable {mc ms : Nat} {free : Addr → Prop} {A0 A1 : Nat → Prop} {H0 : Heap} {a : Array Value} {pc : Nat} {ls : Array Slot} {st0 rest : List Value}
/-- a call of a method that throws, always -/
theorem vx_callX {SX : Type} {px : SX → Prop} {BX : String → SX → State → Prop} {AX : Nat → Prop} (hr : vx_Run p l e R s m args below meth c H locs cells slots mc ms (F0 m pc ls st0) rest (fun _ _ _ => False) (vx_X px BX AX) free) (hS : va_S A0 H0 H locs) (hf : ∀ q, free q → A0 q) (hAX : ∀ q, q < H.size → AX q → A0 q)
    (kx : ∀ (E : String) (ce : Cell) (q9 : Addr) (u : SX) (t : State) (H1 : Heap) (locs1 : List Loc), t.heap = H1 → s.vm.Alike t.vm → px u → BX E u t → H.size ≤ H1.size → (∀ q : Nat, q < H.size → ¬ AX q → H1[q]? = H[q]?) → va_S A0 H0 H1 locs1 → H1[q9]? = some ce → ce.vm = .none → s.vm.findClass E = some ce.cls → vx_W p l e R s m args below meth c H1 locs1 (cells + mc) (slots + ms) Q (F0 m pc ls rest) q9) : W p l e R s m args below meth c H locs cells slots Q (F0 m pc ls st0) := by
  intro T hT X
  rcases hr T hT X with ⟨v, st₀, t, T', L, h0, X', hL, e1, e2, hFalse, st⟩ | ⟨q, st₀, t, T', L, E, ce, h0, X', hL, e1, e2, ⟨u, hp, hb, hF⟩, hce, hcv, hcl, st⟩
  · exact hFalse.elim
  · obtain ⟨k1, k2, k3⟩ := vx_keep h0 e1 hS hAX hf hL hF
    obtain ⟨t2, a1, b1⟩ := kx E ce q u t T'.heap (locs ++ L) e1.symm (by rw [← e2]; exact X'.warmed.alike) hp hb k1 k2 k3 (by rw [e1]; exact hce) hcv hcl T' rfl X'
    exact ⟨t2, st.trans a1, b1⟩
end Never
