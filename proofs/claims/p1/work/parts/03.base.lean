/-- NeededLists' fields -/
abbrev xF (hm h1 h2 h3 : Nat) (mc rl st : Int32) : List Value := [.ref hm, .ref h1, .ref h2, .ref h3, .int mc, .int rl, .int st, .int 0, .int 0]
/-- the reference's fields -/
abbrev mF (a : Nat → Nat) (l m p t : Int32) : List Value := [.int l, .ref (a 1), .ref (a 2), .ref (a 3), .ref (a 4), .ref (a 5), .ref (a 6), .ref (a 7), .ref (a 8), .ref (a 9), .ref (a 10), .ref (a 11), .int m, .ref (a 13), .ref (a 14), .int p, .int 0, .int 0, .int 0, .int t, .ref (a 20), .ref (a 21), .long 0, .int 0, .int 0, .long 0, .int 0, .int 0, .int 0, .int 0, .long 0, .ref (a 31)]
def bOp (op : Int32) : Int32 := if op < 0 then 0 else if 8 < op then 0 else 1
def kOp (op : Int32) : Int32 := if op < 0 then 1 else if op ≤ 8 then 0 else 1
def kHole (k : Int32) : Int32 := if k = 0 then 0 else if k = 1 then 0 else 1
def kSteps (n : Int32) : Int32 := if n < 1 then 1 else if n ≤ 5000 then 0 else 1
theorem kOp_ok {op : Int32} (h : ¬ bOp op = 0) : kOp op = 0 := by
  unfold bOp at h; unfold kOp
  by_cases h1 : op < 0
  · rw [if_pos h1] at h; exact absurd rfl h
  · rw [if_neg h1] at h ⊢
    by_cases h2 : 8 < op
    · rw [if_pos h2] at h; exact absurd rfl h
    · rw [if_pos (Int32.not_lt.mp h2)]
theorem kOp_no {op : Int32} (h : bOp op = 0) : kOp op = 1 := by
  unfold bOp at h; unfold kOp
  by_cases h1 : op < 0
  · rw [if_pos h1]
  · rw [if_neg h1] at h ⊢
    by_cases h2 : 8 < op
    · rw [if_neg (fun h3 => Int32.not_lt.mpr h3 h2)]
    · rw [if_neg h2] at h; exact absurd h (by decide)
theorem nd_0 {A : Nat → Prop} : va_D A ([] : va_W) := ⟨fun i j p q h => by simp at h, fun k q h => by simp at h⟩
theorem nd_P0 {D : va_G} {cl : List vw_C} {H : Heap} : va_P D cl [] H := fun k q h => by simp at h
theorem nd_keep {D : va_G} {cl : List vw_C} {ws : va_W} {H H1 : Heap} (hP : va_P D cl ws H) (hk : ∀ q : Nat, q < H.size → ¬ va_A [] H.size q → H1[q]? = H[q]?) : va_P D cl ws H1 :=
  hP.kept (fun k q h => hk q.1 (hP k q h).lt (fun hA => by
    rcases hA with ⟨k2, e, h2⟩ | h2
    · simp at h2
    · exact absurd ((hP k q h).lt) (Nat.not_lt.mpr h2)))
theorem nd_drop {A0 : Nat → Prop} {D : va_G} {cl : List vw_C} {ws wc wr : va_W} {H H1 : Heap} (hP : va_P D cl ws H) (hD : va_D A0 ws) (isC isR : List Nat) (hC : isC.map (fun i => ws[i]?) = wc.map some) (hR : isR.map (fun i => ws[i]?) = wr.map some) (hn : va_nd isR = true) (hdis : ∀ i ∈ isR, i ∉ isC)
    (hk : ∀ q : Nat, q < H.size → ¬ va_A wc H.size q → H1[q]? = H[q]?) (hF : ∀ q, va_A wc H.size q → A0 q) : va_P D cl wr H1 ∧ va_D A0 wr := by
  have h := va_join (w1 := []) hP hD isC isR hC hR hn hdis hk hF nd_P0 nd_0
  rw [List.append_nil] at h
  exact h
theorem nd_in {i : Int32} {n : Nat} (h : ¬ (i < 0 ∨ n ≤ i.toNatClampNeg)) : vp_in i n := h
