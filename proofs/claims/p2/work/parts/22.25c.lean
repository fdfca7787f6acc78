
def PG (sh : Sh) : Nat → ((Nat → Nat → Int32) → (Nat → Nat → Int32) → (Nat → Nat → Int64) → Nat → Int32 → (Int32 → (Nat → Nat → Int32) → (Nat → Nat → Int32) → (Nat → Nat → Int64) → Prop) → Prop) × ((Nat → Nat → Int32) → (Nat → Nat → Int32) → (Nat → Nat → Int64) → Nat → Int32 → (Int32 → (Nat → Nat → Int32) → (Nat → Nat → Int32) → (Nat → Nat → Int64) → Prop) → Prop)
  | 0 => (fun _ _ _ _ _ _ => False, fun _ _ _ _ _ _ => False)
  | d + 1 => (P_X5_reach sh (PG sh d).1 (PG sh d).2, P_X5_work sh (PG sh d).1 (PG sh d).2)
theorem pg (l : Launch) (dC : Nat → ClassId) (dI : Nat → Nat → Nat) (sh : Sh) (d : Nat) : GM l dC dI sh yX5_reach wmX5_reach ({ frames := 300 + 5 * d, cells := 0, slots := 0, locals := 6000 + 200 * d }) (PG sh d).1 ∧ GM l dC dI sh yX5_work wmX5_work ({ frames := 300 + 5 * d, cells := 0, slots := 0, locals := 6000 + 200 * d }) (PG sh d).2 := by
  induction d with
  | zero => exact ⟨fun ci ai al q k Q h => h.elim, fun ci ai al q k Q h => h.elim⟩
  | succ d ih => exact ⟨fun ci ai al q k Q h sz => p_X5_reach l dC dI sh d ih.1 ih.2 ci ai al q k Q h sz, fun ci ai al q k Q h sz => p_X5_work l dC dI sh d ih.1 ih.2 ci ai al q k Q h sz⟩
