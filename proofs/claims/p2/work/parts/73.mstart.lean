theorem IM.zero : IM (fun _ _ => 0) 0 := ⟨by decide, fun l h => absurd h (Nat.not_lt_zero _), fun l k _ _ => ⟨0, 0, rfl, rfl, by decide, Nat.zero_le _, fun h => absurd h (Nat.not_lt_zero _)⟩, fun l k h => absurd h (Nat.not_lt_zero _), fun _ _ _ _ _ => rfl, fun l k t h => absurd h (Nat.not_lt_zero _)⟩
def v0 : Nat → Int32 := fun k => if k = 15 then 1000 else 0
theorem RI.start : RI v0 (fun _ _ => 0) 0 0 1000 := ⟨IM.zero, rfl, rfl, by decide, rfl, by decide, by decide⟩
/-- the object as its constructor leaves it -/
def sh0 (h0 hm h1 h2 h3 : Nat) (cx : Nat → ClassId) : Sh := ([h0, hm, h1, h2, h3], fun q => if q = h0 then 10 else if q = hm then 5 else if q = h1 then 23 else if q = h2 then 22 else 21, fun q => if q = h1 then 24 else 100, fun q => if q = h1 then cx 1 else if q = h2 then cx 2 else cx 3, fun q k => if q = h0 then (match k with | 0 => some hm | 1 => some h1 | 2 => some h2 | 3 => some h3 | _ => none) else none, fun _ _ => 0, fun _ _ => none)
def ci0 (h0 : Nat) : Nat → Nat → Int32 := fun q k => if q = h0 ∧ k = 6 then 1000 else 0
theorem XI.start {h0 hm h1 h2 h3 : Nat} {cx : Nat → ClassId} (n1 : hm ≠ h0) (n2 : h1 ≠ h0) (n3 : h2 ≠ h0) (n4 : h3 ≠ h0) (n5 : h1 ≠ hm) (n6 : h2 ≠ hm) (n7 : h3 ≠ hm) (n8 : h2 ≠ h1) (n9 : h3 ≠ h1) (n10 : h3 ≠ h2) : XI (sh0 h0 hm h1 h2 h3 cx) (fun _ => 0) h0 (ci0 h0) (fun _ _ => 0) 0 0 (nI 1000) := by
  have k0 : sK (sh0 h0 hm h1 h2 h3 cx) h0 = 10 := by simp [sK, sh0]
  have k1 : sK (sh0 h0 hm h1 h2 h3 cx) hm = 5 := by simp [sK, sh0, n1]
  have k2 : sK (sh0 h0 hm h1 h2 h3 cx) h1 = 23 := by simp [sK, sh0, n2, n5]
  have k3 : sK (sh0 h0 hm h1 h2 h3 cx) h2 = 22 := by simp [sK, sh0, n3, n6, n8]
  have k4 : sK (sh0 h0 hm h1 h2 h3 cx) h3 = 21 := by simp [sK, sh0, n4, n7, n9, n10]
  have mem : ∀ {q : Nat}, q ∈ sL (sh0 h0 hm h1 h2 h3 cx) → q = h0 ∨ q = hm ∨ q = h1 ∨ q = h2 ∨ q = h3 := fun {q} h => by
    have h' : q ∈ [h0, hm, h1, h2, h3] := h
    simpa using h'
  have noz : ∀ q, ¬ LZ (sh0 h0 hm h1 h2 h3 cx) q := fun q h => by
    have hz := h.2
    rcases mem h.1 with rfl | rfl | rfl | rfl | rfl
    · rw [k0] at hz; exact absurd hz (by decide)
    · rw [k1] at hz; exact absurd hz (by decide)
    · rw [k2] at hz; exact absurd hz (by decide)
    · rw [k3] at hz; exact absurd hz (by decide)
    · rw [k4] at hz; exact absurd hz (by decide)
  have inl : ∀ {q : Nat}, (q = h0 ∨ q = hm ∨ q = h1 ∨ q = h2 ∨ q = h3) → q ∈ sL (sh0 h0 hm h1 h2 h3 cx) := fun {q} h => by
    show q ∈ [h0, hm, h1, h2, h3]
    simpa using h
  have no3 : ∀ q, q ∈ sL (sh0 h0 hm h1 h2 h3 cx) → ¬ sK (sh0 h0 hm h1 h2 h3 cx) q = 3 := fun q h e => noz q ⟨h, by rw [e]; decide⟩
  refine ⟨fun q h => absurd h (noz q), ⟨fun _ _ _ _ => m8_0, fun q h e => absurd e (no3 q h), fun q h e => absurd e (no3 q h), fun q h => absurd h (noz q)⟩, ⟨inl (Or.inl rfl), k0⟩, ⟨hm, by simp [sR, sh0], inl (Or.inr (Or.inl rfl)), k1⟩, ⟨h1, by simp [sR, sh0], inl (Or.inr (Or.inr (Or.inl rfl))), k2, by simp [sN, sh0], fun i hi => absurd hi (Nat.not_lt_zero _)⟩, ⟨h2, by simp [sR, sh0], inl (Or.inr (Or.inr (Or.inr (Or.inl rfl)))), k3, by simp [sN, sh0, n8]⟩, ⟨h3, by simp [sR, sh0], inl (Or.inr (Or.inr (Or.inr (Or.inr rfl)))), k4, by simp [sN, sh0, n9], fun j hj => absurd hj (Nat.not_lt_zero _)⟩, fun q h => absurd h (noz q), by decide, by decide, by simp [ci0]; rfl, by simp [ci0]; rfl, by simp [ci0]; rfl⟩
