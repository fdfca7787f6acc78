def rf_X12_floor (p0 : Int64) (p1 : Int64) : Int64 := (if (lg_cmp (p0 - p0 / p1 * p1) 0) = 0 then (p0 / p1) else (if 0 ≤ (lg_cmp p0 0) then (if 0 ≤ (lg_cmp p1 0) then (p0 / p1) else ((p0 / p1) - 1)) else (if 0 ≤ (lg_cmp p1 0) then ((p0 / p1) - 1) else (p0 / p1))))
set_option maxHeartbeats 4000000 in
set_option maxRecDepth 100000 in
theorem c_X12_floor (l : Launch) (dC : Nat → ClassId) (dI : Nat → Nat → Nat) (p0 : Int64) (p1 : Int64) (sz : Nat) (hy : ¬ p1 = 0) : Met l yX12_floor wsX12_floor ({ frames := 10, cells := 0, slots := 0, locals := 300 }) (va_Pc [.long p0, .long p1] (fun U => U.heap.size = sz ∧ va_P (dC, dI) vwCl [] U.heap ∧ va_K (dC, dI) vwCl [] U ∧ va_D (fun _ => True) [])) (va_Ql (fun (r : Int64) (_ : Unit) => r = rf_X12_floor p0 p1) (fun _ _ => True) (va_A [] sz)) 0 0 (va_A [] sz) := by
  refine Met.ofW (cc := cX12_floor) (maxL := 6) (ret := (some .long)) (by decide) rfl ?_
  intro p e s m args below meth c s₁ B hml hv
  obtain ⟨rfl, hsz, hP, hK, hD0⟩ := hv
  have hx := B.exec
  have hb := B.bytes
  have hr := B.returns
  have hts := atoms_spec (ws := wsX12_floor) B.pre
  have hown : s.vm.findClass RX12 = some m.cls := findClass_of_methodNamed B.named
  have hlocks := B.notSynchronized
  subst hsz
  have hD := hD0.self (sz := s.heap.size)
  generalize hAe : va_A [] s.heap.size = A at hD ⊢
  have hA : ∀ q : Nat, s.heap.size ≤ q → A q := fun q h => by rw [← hAe]; exact Or.inr h
  generalize hH : s.heap = H at hP ⊢
  have hS : va_S A s.heap H [] := by rw [← hH]; exact va_S.rf
  have hl := lv_entry [.long p0, .long p1] (n := 6) (Nat.le_of_ble_eq_true rfl)
  rw [lg_entry_eq]
  generalize (lg_sl [.long p0, .long p1] ++ List.replicate (6 - (lg_sl [.long p0, .long p1]).length) Slot.unset).toArray = ls at hl ⊢
  have hl : lv_has ls 6 [(0, .long p0), (2, .long p1)] := hl
  have hP : va_P (dC, dI) vwCl [] H := hP
  refine lv_lload_n hx hb dX12_floor_0 rfl (lv_at hl 0 rfl) ?_
  refine lv_lload_n hx hb dX12_floor_1 rfl (lv_at hl 1 rfl) ?_
  refine lv_ldiv hx hb dX12_floor_2 hy ?_
  refine lv_lstore (lv' := [(4, .long (p0 / p1)), (0, .long p0), (2, .long p1)]) hx hb dX12_floor_3 hl (by decide) rfl (fun ls hl => ?_)
  refine lv_lload_n hx hb dX12_floor_5 rfl (lv_at hl 1 rfl) ?_
  refine lv_lload_n hx hb dX12_floor_6 rfl (lv_at hl 2 rfl) ?_
  refine lv_lrem hx hb dX12_floor_7 hy ?_
  refine lv_lconst (v := 0) hx hb dX12_floor_8 (by decide) ?_
  refine W.lcmp hx hb dX12_floor_9 ?_
  refine lv_if_eq (tgt := 45) hx hb dX12_floor_10 (by decide) (fun c_10 => ?_) (fun c_10 => ?_)
  · refine lv_lload hx hb dX12_floor_45 (lv_at hl 0 rfl) ?_
    refine W.widen (k := 0) (n := 0) (by decide +kernel) (by decide +kernel) ?_
    exact W.lret (v := (p0 / p1)) hx hb hr (fun t ht hW => ⟨⟨p0 / p1, (), rfl, (if_pos c_10).symm, trivial⟩, hS.F ht⟩) hS.2.2 dX12_floor_47
  · refine lv_lload_n hx hb dX12_floor_13 rfl (lv_at hl 1 rfl) ?_
    refine lv_lconst (v := 0) hx hb dX12_floor_14 (by decide) ?_
    refine W.lcmp hx hb dX12_floor_15 ?_
    refine lv_if_ge (tgt := 23) hx hb dX12_floor_16 (by decide) (fun c_16 => ?_) (fun c_16 => ?_)
    · refine lv_iconst (v := 0) hx hb dX12_floor_23 (by decide) ?_
      refine lv_lload_n hx hb dX12_floor_24 rfl (lv_at hl 2 rfl) ?_
      refine lv_lconst (v := 0) hx hb dX12_floor_25 (by decide) ?_
      refine W.lcmp hx hb dX12_floor_26 ?_
      refine lv_if_ge (tgt := 34) hx hb dX12_floor_27 (by decide) (fun c_27 => ?_) (fun c_27 => ?_)
      · refine lv_iconst (v := 0) hx hb dX12_floor_34 (by decide) ?_
        refine lv_icmp_eq (tgt := 45) hx hb dX12_floor_35 (by decide) (fun c_35 => ?_) (fun c_35 => ?_)
        · refine lv_lload hx hb dX12_floor_45 (lv_at hl 0 rfl) ?_
          refine W.widen (k := 0) (n := 0) (by decide +kernel) (by decide +kernel) ?_
          exact W.lret (v := (p0 / p1)) hx hb hr (fun t ht hW => ⟨⟨p0 / p1, (), rfl, (((if_neg c_10).trans (if_pos c_16)).trans (if_pos c_27)).symm, trivial⟩, hS.F ht⟩) hS.2.2 dX12_floor_47
        · exact absurd c_35 (by decide)
      · refine lv_iconst (v := 1) hx hb dX12_floor_30 (by decide) ?_
        refine lv_goto (tgt := 35) hx hb dX12_floor_31 (by decide) ?_
        refine lv_icmp_eq (tgt := 45) hx hb dX12_floor_35 (by decide) (fun c_35 => ?_) (fun c_35 => ?_)
        · exact absurd c_35 (by decide)
        · refine lv_lload hx hb dX12_floor_38 (lv_at hl 0 rfl) ?_
          refine lv_lconst (v := 1) hx hb dX12_floor_40 (by decide) ?_
          refine lv_lsub hx hb dX12_floor_41 ?_
          refine lv_goto (tgt := 47) hx hb dX12_floor_42 (by decide) ?_
          refine W.widen (k := 0) (n := 0) (by decide +kernel) (by decide +kernel) ?_
          exact W.lret (v := ((p0 / p1) - 1)) hx hb hr (fun t ht hW => ⟨⟨(p0 / p1) - 1, (), rfl, (((if_neg c_10).trans (if_pos c_16)).trans (if_neg c_27)).symm, trivial⟩, hS.F ht⟩) hS.2.2 dX12_floor_47
    · refine lv_iconst (v := 1) hx hb dX12_floor_19 (by decide) ?_
      refine lv_goto (tgt := 24) hx hb dX12_floor_20 (by decide) ?_
      refine lv_lload_n hx hb dX12_floor_24 rfl (lv_at hl 2 rfl) ?_
      refine lv_lconst (v := 0) hx hb dX12_floor_25 (by decide) ?_
      refine W.lcmp hx hb dX12_floor_26 ?_
      refine lv_if_ge (tgt := 34) hx hb dX12_floor_27 (by decide) (fun c_27 => ?_) (fun c_27 => ?_)
      · refine lv_iconst (v := 0) hx hb dX12_floor_34 (by decide) ?_
        refine lv_icmp_eq (tgt := 45) hx hb dX12_floor_35 (by decide) (fun c_35 => ?_) (fun c_35 => ?_)
        · exact absurd c_35 (by decide)
        · refine lv_lload hx hb dX12_floor_38 (lv_at hl 0 rfl) ?_
          refine lv_lconst (v := 1) hx hb dX12_floor_40 (by decide) ?_
          refine lv_lsub hx hb dX12_floor_41 ?_
          refine lv_goto (tgt := 47) hx hb dX12_floor_42 (by decide) ?_
          refine W.widen (k := 0) (n := 0) (by decide +kernel) (by decide +kernel) ?_
          exact W.lret (v := ((p0 / p1) - 1)) hx hb hr (fun t ht hW => ⟨⟨(p0 / p1) - 1, (), rfl, (((if_neg c_10).trans (if_neg c_16)).trans (if_pos c_27)).symm, trivial⟩, hS.F ht⟩) hS.2.2 dX12_floor_47
      · refine lv_iconst (v := 1) hx hb dX12_floor_30 (by decide) ?_
        refine lv_goto (tgt := 35) hx hb dX12_floor_31 (by decide) ?_
        refine lv_icmp_eq (tgt := 45) hx hb dX12_floor_35 (by decide) (fun c_35 => ?_) (fun c_35 => ?_)
        · refine lv_lload hx hb dX12_floor_45 (lv_at hl 0 rfl) ?_
          refine W.widen (k := 0) (n := 0) (by decide +kernel) (by decide +kernel) ?_
          exact W.lret (v := (p0 / p1)) hx hb hr (fun t ht hW => ⟨⟨p0 / p1, (), rfl, (((if_neg c_10).trans (if_neg c_16)).trans (if_neg c_27)).symm, trivial⟩, hS.F ht⟩) hS.2.2 dX12_floor_47
        · exact absurd c_35 (by decide)
