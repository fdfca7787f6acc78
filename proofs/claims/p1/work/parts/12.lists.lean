set_option maxHeartbeats 4000000 in
set_option maxRecDepth 100000 in
theorem c_J7_copyOf_c38d5 (l : Launch) (dC : Nat → ClassId) (dI : Nat → Nat → Nat) (h0 : Nat) (c0 : ClassId) (f0 : Nat → Int64) (sz : Nat) : Met l yJ7_copyOf_c38d5 wsJ7_copyOf_c38d5 ({ frames := 10, cells := 1, slots := 0, locals := 300 }) (va_Pc [.ref h0, .int 0] (fun U => U.heap.size = sz ∧ va_P (dC, dI) vwCl [(h0, .inl (c0, 100, .inr (.inl (f0))))] U.heap ∧ va_K (dC, dI) vwCl [(c0, .long)] U ∧ va_D (fun _ => True) [(h0, .inl (c0, 100, .inr (.inl (f0))))])) (va_Qr (fun _ => True) (fun (u : ClassId × (Nat → Int64)) (a9 : Nat) (t : State) => va_P (dC, dI) vwCl [(a9, .inl (u.1, 0, .inr (.inl (u.2))))] t.heap ∧ va_K (dC, dI) vwCl [(u.1, .long)] t ∧ va_D (va_A [(h0, .inl (c0, 100, .inr (.inl (f0))))] sz) [(a9, .inl (u.1, 0, .inr (.inl (u.2))))]) (va_A [(h0, .inl (c0, 100, .inr (.inl (f0))))] sz)) 1 0 (va_A [(h0, .inl (c0, 100, .inr (.inl (f0))))] sz) := by
  refine Met.ofW (cc := cJ7_copyOf_c38d5) (maxL := 3) (ret := (some (.array .long))) (by decide) rfl ?_
  intro p e s m args below meth c s₁ B hml hv
  obtain ⟨rfl, hsz, hP, hK, hD0⟩ := hv
  have hx := B.exec
  have hb := B.bytes
  have hr := B.returns
  have hts := atoms_spec (ws := wsJ7_copyOf_c38d5) B.pre
  have hown : s.vm.findClass RJ7 = some m.cls := findClass_of_methodNamed B.named
  have hlocks := B.notSynchronized
  subst hsz
  have hD := hD0.self (sz := s.heap.size)
  generalize hAe : va_A [(h0, .inl (c0, 100, .inr (.inl (f0))))] s.heap.size = A at hD ⊢
  have hA : ∀ q : Nat, s.heap.size ≤ q → A q := fun q h => by rw [← hAe]; exact Or.inr h
  generalize hH : s.heap = H at hP ⊢
  have hS : va_S A s.heap H [] := by rw [← hH]; exact va_S.rf
  have hl := lv_entry [.ref h0, .int 0] (n := 3) (Nat.le_of_ble_eq_true rfl)
  rw [lg_entry_eq]
  generalize (lg_sl [.ref h0, .int 0] ++ List.replicate (3 - (lg_sl [.ref h0, .int 0]).length) Slot.unset).toArray = ls at hl ⊢
  have hl : lv_has ls 3 [(0, .ref h0), (1, .int 0)] := hl
  have hP : va_P (dC, dI) vwCl [(h0, .inl (c0, 100, .inr (.inl (f0))))] H := hP
  refine lv_iload_n hx hb dJ7_copyOf_c38d5_0 rfl (lv_at hl 1 rfl) ?_
  refine lv_aload_n hx hb dJ7_copyOf_c38d5_1 rfl (lv_at hl 0 rfl) ?_
  refine va_alen (v := 100) hx hb hK hP 0 0 rfl rfl rfl dJ7_copyOf_c38d5_2 ?_
  refine lv_icmp_ne (tgt := 14) hx hb dJ7_copyOf_c38d5_3 (by decide) (fun c_3 => ?_) (fun c_3 => ?_)
  · refine lv_iload_n hx hb dJ7_copyOf_c38d5_14 rfl (lv_at hl 1 rfl) ?_
    refine va_newa (atype := .long) (ty := .long) (N' := 0) (a0 := (0, .inr (.inl (fun _ => 0)))) hx hb (hts (.arrayClass .long) (by decide +kernel)) rfl hK hP hD hS hA (nd_along 0) (by decide +kernel) (by decide +kernel) (by decide +kernel) (by decide +kernel) (by decide +kernel) dJ7_copyOf_c38d5_15 (fun q_1 cA_2 H hK hP hD hS => ?_)
    have hP : va_P (dC, dI) vwCl [(h0, .inl (c0, 100, .inr (.inl (f0)))), (q_1, .inl (cA_2, 0, .inr (.inl (fun _ => 0))))] H := hP
    have hD : va_D A [(h0, .inl (c0, 100, .inr (.inl (f0)))), (q_1, .inl (cA_2, 0, .inr (.inl (fun _ => 0))))] := hD
    have hK : va_K (dC, dI) vwCl [(c0, .long), (cA_2, .long)] s := hK
    refine W.widen (k := 1) (n := 0) (by decide +kernel) (by decide +kernel) ?_
    refine lv_astore_n (lv' := [(2, .ref q_1), (0, .ref h0), (1, .int 0)]) hx hb dJ7_copyOf_c38d5_17 rfl hl (by decide) rfl (fun ls hl => ?_)
    refine lv_aload_n hx hb dJ7_copyOf_c38d5_18 rfl (lv_at hl 1 rfl) ?_
    refine lv_iconst (v := 0) hx hb dJ7_copyOf_c38d5_19 (by decide) ?_
    refine lv_aload_n hx hb dJ7_copyOf_c38d5_20 rfl (lv_at hl 0 rfl) ?_
    refine lv_iconst (v := 0) hx hb dJ7_copyOf_c38d5_21 (by decide) ?_
    refine lv_aload_n hx hb dJ7_copyOf_c38d5_22 rfl (lv_at hl 1 rfl) ?_
    refine va_alen (v := 100) hx hb hK hP 0 0 rfl rfl rfl dJ7_copyOf_c38d5_23 ?_
    refine lv_iload_n hx hb dJ7_copyOf_c38d5_24 rfl (lv_at hl 2 rfl) ?_
    refine va_mmin hx hb (hml.trans hl.1.symm) hown (hts (.methodLink RJ7 304 Lib.Math.min.name) (by decide +kernel)) (hts (.static Lib.Math.min.name) (by decide +kernel)) (hts (.initialized "java/lang/Math") (by decide +kernel)) (hts (.code Lib.Math.min.name Lib.Math.min.code 2 (some .int)) (by decide +kernel)) (Nat.le_of_ble_eq_true rfl) (Nat.le_of_ble_eq_true rfl) (Nat.le_of_ble_eq_true rfl) (Nat.le_of_ble_eq_true rfl) dJ7_copyOf_c38d5_25 ?_
    refine lv_topi (fun z_3 ez_3 => ?_)
    obtain rfl : z_3 = 0 := ez_3.trans (by decide)
    refine va_copyl (ty := .long) hx hb (hml.trans hl.1.symm) hown (hts (.methodLink RJ7 150 arraycopyName) (by decide +kernel)) (hts (.native arraycopyName) (by decide +kernel)) (hts (.static arraycopyName) (by decide +kernel)) (hts (.initialized "java/lang/System") (by decide +kernel)) hK hP hD hS 0 1 0 1 rfl rfl rfl rfl rfl (by decide) (by decide) (by decide) (by decide) (by decide) (fun i hi => absurd (show i < 0 from hi) (Nat.not_lt_zero i)) (Nat.le_of_ble_eq_true rfl) (Nat.le_of_ble_eq_true rfl) dJ7_copyOf_c38d5_28 (fun H locs hP hD hS => ?_)
    obtain ⟨f_4, ef_4⟩ : ∃ z, z = va_cpy f0 (fun _ => 0) (0 : Int32).toNatClampNeg (0 : Int32).toNatClampNeg (0 : Int32).toNatClampNeg := ⟨_, rfl⟩
    have hP : va_P (dC, dI) vwCl [(h0, .inl (c0, 100, .inr (.inl (f0)))), (q_1, .inl (cA_2, 0, .inr (.inl (va_cpy f0 (fun _ => 0) (0 : Int32).toNatClampNeg (0 : Int32).toNatClampNeg (0 : Int32).toNatClampNeg))))] H := hP
    have hD : va_D A [(h0, .inl (c0, 100, .inr (.inl (f0)))), (q_1, .inl (cA_2, 0, .inr (.inl (va_cpy f0 (fun _ => 0) (0 : Int32).toNatClampNeg (0 : Int32).toNatClampNeg (0 : Int32).toNatClampNeg))))] := hD
    rw [← ef_4] at hP hD
    refine lv_aload_n hx hb dJ7_copyOf_c38d5_31 rfl (lv_at hl 0 rfl) ?_
    refine W.widen (k := 1) (n := 0) (by decide +kernel) (by decide +kernel) ?_
    have hP9 := hP.sub (ws' := [(q_1, .inl (cA_2, 0, .inr (.inl (f_4))))]) [1] rfl
    have hD9 := hD.sub (ws' := [(q_1, .inl (cA_2, 0, .inr (.inl (f_4))))]) [1] (by decide) rfl
    have hK9 := hK.sub (tys' := [(cA_2, .long)]) [1] rfl
    exact W.aret hx hb hr (Or.inr ⟨_, rfl⟩) (Or.inr ⟨_, rfl⟩) (fun t ht hW => ⟨⟨(cA_2, f_4), q_1, rfl, trivial, by rw [ht]; exact hP9, va_K.moved hW.alike hK9, hD9⟩, hS.F ht⟩) hS.2.2 dJ7_copyOf_c38d5_32
  · exact absurd c_3 (by decide)
set_option maxHeartbeats 4000000 in
set_option maxRecDepth 100000 in
theorem c_J7_copyOf_9075b (l : Launch) (dC : Nat → ClassId) (dI : Nat → Nat → Nat) (h0 : Nat) (c0 : ClassId) (f0 : Nat → Int32) (sz : Nat) : Met l yJ7_copyOf_9075b wsJ7_copyOf_9075b ({ frames := 10, cells := 1, slots := 0, locals := 300 }) (va_Pc [.ref h0, .int 0] (fun U => U.heap.size = sz ∧ va_P (dC, dI) vwCl [(h0, .inl (c0, 100, .inl (f0)))] U.heap ∧ va_K (dC, dI) vwCl [(c0, .byte)] U ∧ va_D (fun _ => True) [(h0, .inl (c0, 100, .inl (f0)))])) (va_Qr (fun _ => True) (fun (u : ClassId × (Nat → Int32)) (a9 : Nat) (t : State) => va_P (dC, dI) vwCl [(a9, .inl (u.1, 0, .inl (u.2)))] t.heap ∧ va_K (dC, dI) vwCl [(u.1, .byte)] t ∧ va_D (va_A [(h0, .inl (c0, 100, .inl (f0)))] sz) [(a9, .inl (u.1, 0, .inl (u.2)))]) (va_A [(h0, .inl (c0, 100, .inl (f0)))] sz)) 1 0 (va_A [(h0, .inl (c0, 100, .inl (f0)))] sz) := by
  refine Met.ofW (cc := cJ7_copyOf_9075b) (maxL := 3) (ret := (some (.array .byte))) (by decide) rfl ?_
  intro p e s m args below meth c s₁ B hml hv
  obtain ⟨rfl, hsz, hP, hK, hD0⟩ := hv
  have hx := B.exec
  have hb := B.bytes
  have hr := B.returns
  have hts := atoms_spec (ws := wsJ7_copyOf_9075b) B.pre
  have hown : s.vm.findClass RJ7 = some m.cls := findClass_of_methodNamed B.named
  have hlocks := B.notSynchronized
  subst hsz
  have hD := hD0.self (sz := s.heap.size)
  generalize hAe : va_A [(h0, .inl (c0, 100, .inl (f0)))] s.heap.size = A at hD ⊢
  have hA : ∀ q : Nat, s.heap.size ≤ q → A q := fun q h => by rw [← hAe]; exact Or.inr h
  generalize hH : s.heap = H at hP ⊢
  have hS : va_S A s.heap H [] := by rw [← hH]; exact va_S.rf
  have hl := lv_entry [.ref h0, .int 0] (n := 3) (Nat.le_of_ble_eq_true rfl)
  rw [lg_entry_eq]
  generalize (lg_sl [.ref h0, .int 0] ++ List.replicate (3 - (lg_sl [.ref h0, .int 0]).length) Slot.unset).toArray = ls at hl ⊢
  have hl : lv_has ls 3 [(0, .ref h0), (1, .int 0)] := hl
  have hP : va_P (dC, dI) vwCl [(h0, .inl (c0, 100, .inl (f0)))] H := hP
  refine lv_iload_n hx hb dJ7_copyOf_9075b_0 rfl (lv_at hl 1 rfl) ?_
  refine lv_aload_n hx hb dJ7_copyOf_9075b_1 rfl (lv_at hl 0 rfl) ?_
  refine va_alen (v := 100) hx hb hK hP 0 0 rfl rfl rfl dJ7_copyOf_9075b_2 ?_
  refine lv_icmp_ne (tgt := 14) hx hb dJ7_copyOf_9075b_3 (by decide) (fun c_3 => ?_) (fun c_3 => ?_)
  · refine lv_iload_n hx hb dJ7_copyOf_9075b_14 rfl (lv_at hl 1 rfl) ?_
    refine va_newa (atype := .byte) (ty := .byte) (N' := 0) (a0 := (0, .inl (fun _ => 0))) hx hb (hts (.arrayClass .byte) (by decide +kernel)) rfl hK hP hD hS hA (nd_abyte 0) (by decide +kernel) (by decide +kernel) (by decide +kernel) (by decide +kernel) (by decide +kernel) dJ7_copyOf_9075b_15 (fun q_1 cA_2 H hK hP hD hS => ?_)
    have hP : va_P (dC, dI) vwCl [(h0, .inl (c0, 100, .inl (f0))), (q_1, .inl (cA_2, 0, .inl (fun _ => 0)))] H := hP
    have hD : va_D A [(h0, .inl (c0, 100, .inl (f0))), (q_1, .inl (cA_2, 0, .inl (fun _ => 0)))] := hD
    have hK : va_K (dC, dI) vwCl [(c0, .byte), (cA_2, .byte)] s := hK
    refine W.widen (k := 1) (n := 0) (by decide +kernel) (by decide +kernel) ?_
    refine lv_astore_n (lv' := [(2, .ref q_1), (0, .ref h0), (1, .int 0)]) hx hb dJ7_copyOf_9075b_17 rfl hl (by decide) rfl (fun ls hl => ?_)
    refine lv_aload_n hx hb dJ7_copyOf_9075b_18 rfl (lv_at hl 1 rfl) ?_
    refine lv_iconst (v := 0) hx hb dJ7_copyOf_9075b_19 (by decide) ?_
    refine lv_aload_n hx hb dJ7_copyOf_9075b_20 rfl (lv_at hl 0 rfl) ?_
    refine lv_iconst (v := 0) hx hb dJ7_copyOf_9075b_21 (by decide) ?_
    refine lv_aload_n hx hb dJ7_copyOf_9075b_22 rfl (lv_at hl 1 rfl) ?_
    refine va_alen (v := 100) hx hb hK hP 0 0 rfl rfl rfl dJ7_copyOf_9075b_23 ?_
    refine lv_iload_n hx hb dJ7_copyOf_9075b_24 rfl (lv_at hl 2 rfl) ?_
    refine va_mmin hx hb (hml.trans hl.1.symm) hown (hts (.methodLink RJ7 304 Lib.Math.min.name) (by decide +kernel)) (hts (.static Lib.Math.min.name) (by decide +kernel)) (hts (.initialized "java/lang/Math") (by decide +kernel)) (hts (.code Lib.Math.min.name Lib.Math.min.code 2 (some .int)) (by decide +kernel)) (Nat.le_of_ble_eq_true rfl) (Nat.le_of_ble_eq_true rfl) (Nat.le_of_ble_eq_true rfl) (Nat.le_of_ble_eq_true rfl) dJ7_copyOf_9075b_25 ?_
    refine lv_topi (fun z_3 ez_3 => ?_)
    obtain rfl : z_3 = 0 := ez_3.trans (by decide)
    refine va_copyi (ty := .byte) hx hb (hml.trans hl.1.symm) hown (hts (.methodLink RJ7 150 arraycopyName) (by decide +kernel)) (hts (.native arraycopyName) (by decide +kernel)) (hts (.static arraycopyName) (by decide +kernel)) (hts (.initialized "java/lang/System") (by decide +kernel)) hK hP hD hS 0 1 0 1 rfl rfl rfl rfl rfl (by decide) (by decide) (by decide) (by decide) (by decide) (fun i hi => absurd (show i < 0 from hi) (Nat.not_lt_zero i)) (Nat.le_of_ble_eq_true rfl) (Nat.le_of_ble_eq_true rfl) dJ7_copyOf_9075b_28 (fun H locs hP hD hS => ?_)
    obtain ⟨f_4, ef_4⟩ : ∃ z, z = va_cpy f0 (fun _ => 0) (0 : Int32).toNatClampNeg (0 : Int32).toNatClampNeg (0 : Int32).toNatClampNeg := ⟨_, rfl⟩
    have hP : va_P (dC, dI) vwCl [(h0, .inl (c0, 100, .inl (f0))), (q_1, .inl (cA_2, 0, .inl (va_cpy f0 (fun _ => 0) (0 : Int32).toNatClampNeg (0 : Int32).toNatClampNeg (0 : Int32).toNatClampNeg)))] H := hP
    have hD : va_D A [(h0, .inl (c0, 100, .inl (f0))), (q_1, .inl (cA_2, 0, .inl (va_cpy f0 (fun _ => 0) (0 : Int32).toNatClampNeg (0 : Int32).toNatClampNeg (0 : Int32).toNatClampNeg)))] := hD
    rw [← ef_4] at hP hD
    refine lv_aload_n hx hb dJ7_copyOf_9075b_31 rfl (lv_at hl 0 rfl) ?_
    refine W.widen (k := 1) (n := 0) (by decide +kernel) (by decide +kernel) ?_
    have hP9 := hP.sub (ws' := [(q_1, .inl (cA_2, 0, .inl (f_4)))]) [1] rfl
    have hD9 := hD.sub (ws' := [(q_1, .inl (cA_2, 0, .inl (f_4)))]) [1] (by decide) rfl
    have hK9 := hK.sub (tys' := [(cA_2, .byte)]) [1] rfl
    exact W.aret hx hb hr (Or.inr ⟨_, rfl⟩) (Or.inr ⟨_, rfl⟩) (fun t ht hW => ⟨⟨(cA_2, f_4), q_1, rfl, trivial, by rw [ht]; exact hP9, va_K.moved hW.alike hK9, hD9⟩, hS.F ht⟩) hS.2.2 dJ7_copyOf_9075b_32
  · exact absurd c_3 (by decide)
set_option maxHeartbeats 4000000 in
set_option maxRecDepth 100000 in
theorem fill_loop {p : Program} {l : Launch} {e : Env} {R : Room} {s : State} {m : MethodId} {args : Array Value} {below : List Frame} {meth : Method} {c : Code} {Q : State → Prop} {cells slots : Nat} {A : Nat → Prop} {dC : Nat → ClassId} {dI : Nat → Nat → Nat} {h0 : Nat} {c0 : ClassId} {p0 : Int32} (hx : p.tables.exec = Jvm.exec) (hb : c.code = cJ7_fill_031fb) (hK : va_K (dC, dI) vwCl [(c0, .byte)] s)
    (kk : ∀ (f : Nat → Int32) (H : Heap) (locs : List Loc) (ls : Array Slot), va_P (dC, dI) vwCl [(h0, .inl (c0, 400, .inl f))] H → va_D A [(h0, .inl (c0, 400, .inl f))] → va_S A s.heap H locs → lv_has ls 4 [(0, .ref h0)] → W p l e R s m args below meth c H locs cells slots Q (F0 m 20 ls [])) :
    ∀ (n i : Nat) (f : Nat → Int32) (H : Heap) (locs : List Loc) (ls : Array Slot), i + n = 400 → va_P (dC, dI) vwCl [(h0, .inl (c0, 400, .inl f))] H → va_D A [(h0, .inl (c0, 400, .inl f))] → va_S A s.heap H locs → lv_has ls 4 [(0, .ref h0), (1, .int p0), (2, .int (nI i)), (3, .int 400)] → W p l e R s m args below meth c H locs cells slots Q (F0 m 5 ls []) := by
  intro n
  induction n with
  | zero =>
    intro i f H locs ls hi hP hD hS hl
    obtain rfl : i = 400 := by omega
    refine lv_iload_n hx hb dJ7_fill_031fb_5 rfl (lv_at hl 2 rfl) ?_
    refine lv_iload_n hx hb dJ7_fill_031fb_6 rfl (lv_at hl 3 rfl) ?_
    refine lv_icmp_ge (tgt := 20) hx hb dJ7_fill_031fb_7 (by decide) (fun c_7 => ?_) (fun c_7 => ?_)
    · exact kk f H locs ls hP hD hS (lv_sub hl [0] rfl)
    · exact absurd (by decide) c_7
  | succ n ih =>
    intro i f H locs ls hi hP hD hS hl
    refine lv_iload_n hx hb dJ7_fill_031fb_5 rfl (lv_at hl 2 rfl) ?_
    refine lv_iload_n hx hb dJ7_fill_031fb_6 rfl (lv_at hl 3 rfl) ?_
    refine lv_icmp_ge (tgt := 20) hx hb dJ7_fill_031fb_7 (by decide) (fun c_7 => ?_) (fun c_7 => ?_)
    · exact absurd c_7 (nI_ge (a := i) (b := 400) (by omega) (by decide))
    · refine lv_aload_n hx hb dJ7_fill_031fb_10 rfl (lv_at hl 0 rfl) ?_
      refine lv_iload_n hx hb dJ7_fill_031fb_11 rfl (lv_at hl 2 rfl) ?_
      refine lv_iload_n hx hb dJ7_fill_031fb_12 rfl (lv_at hl 1 rfl) ?_
      refine va_bast hx hb hK hP hD hS 0 0 rfl rfl (vp_in_nI (n := i) (N := 400) (by omega) (by decide)) dJ7_fill_031fb_13 (fun H locs hP hD hS => ?_)
      refine lv_iinc (v := nI (i + 1)) (lv' := [(2, .int (nI (i + 1))), (0, .ref h0), (1, .int p0), (3, .int 400)]) hx hb dJ7_fill_031fb_14 hl (k := 2) rfl (nI_1 i) (by decide) rfl (fun ls hl => ?_)
      refine lv_goto (tgt := 5) hx hb dJ7_fill_031fb_17 (by decide) ?_
      exact ih (i + 1) _ H locs ls (by omega) hP hD hS (lv_sub hl [1, 2, 0, 3] rfl)
set_option maxHeartbeats 4000000 in
set_option maxRecDepth 100000 in
theorem c_J7_fill_031fb (l : Launch) (dC : Nat → ClassId) (dI : Nat → Nat → Nat) (h0 : Nat) (c0 : ClassId) (f0 : Nat → Int32) (p0 : Int32) (sz : Nat) : Met l yJ7_fill_031fb wsJ7_fill_031fb ({ frames := 10, cells := 0, slots := 0, locals := 300 }) (va_Pc [.ref h0, .int p0] (fun U => U.heap.size = sz ∧ va_P (dC, dI) vwCl [(h0, .inl (c0, 400, .inl (f0)))] U.heap ∧ va_K (dC, dI) vwCl [(c0, .byte)] U ∧ va_D (fun _ => True) [(h0, .inl (c0, 400, .inl (f0)))])) (va_Qv (fun _ : Unit => True) (fun _ _ => True) (va_A [(h0, .inl (c0, 400, .inl (f0)))] sz)) 0 0 (va_A [(h0, .inl (c0, 400, .inl (f0)))] sz) := by
  refine Met.ofW (cc := cJ7_fill_031fb) (maxL := 4) (ret := none) (by decide) rfl ?_
  intro p e s m args below meth c s₁ B hml hv
  obtain ⟨rfl, hsz, hP, hK, hD0⟩ := hv
  have hx := B.exec
  have hb := B.bytes
  have hr := B.returns
  have hts := atoms_spec (ws := wsJ7_fill_031fb) B.pre
  have hown : s.vm.findClass RJ7 = some m.cls := findClass_of_methodNamed B.named
  have hlocks := B.notSynchronized
  subst hsz
  have hD := hD0.self (sz := s.heap.size)
  generalize hAe : va_A [(h0, .inl (c0, 400, .inl (f0)))] s.heap.size = A at hD ⊢
  have hA : ∀ q : Nat, s.heap.size ≤ q → A q := fun q h => by rw [← hAe]; exact Or.inr h
  generalize hH : s.heap = H at hP ⊢
  have hS : va_S A s.heap H [] := by rw [← hH]; exact va_S.rf
  have hl := lv_entry [.ref h0, .int p0] (n := 4) (Nat.le_of_ble_eq_true rfl)
  rw [lg_entry_eq]
  generalize (lg_sl [.ref h0, .int p0] ++ List.replicate (4 - (lg_sl [.ref h0, .int p0]).length) Slot.unset).toArray = ls at hl ⊢
  have hl : lv_has ls 4 [(0, .ref h0), (1, .int p0)] := hl
  have hP : va_P (dC, dI) vwCl [(h0, .inl (c0, 400, .inl (f0)))] H := hP
  refine lv_iconst (v := 0) hx hb dJ7_fill_031fb_0 (by decide) ?_
  refine lv_istore_n (lv' := [(2, .int 0), (0, .ref h0), (1, .int p0)]) hx hb dJ7_fill_031fb_1 rfl hl (by decide) rfl (fun ls hl => ?_)
  refine lv_aload_n hx hb dJ7_fill_031fb_2 rfl (lv_at hl 1 rfl) ?_
  refine va_alen (v := 400) hx hb hK hP 0 0 rfl rfl rfl dJ7_fill_031fb_3 ?_
  refine lv_istore_n (lv' := [(3, .int 400), (2, .int 0), (0, .ref h0), (1, .int p0)]) hx hb dJ7_fill_031fb_4 rfl hl (by decide) rfl (fun ls hl => ?_)
  refine fill_loop (c0 := c0) (p0 := p0) hx hb hK (fun f H locs ls hP hD hS hl => ?_) 400 0 f0 H _ ls rfl hP hD hS (lv_sub hl [2, 3, 1, 0] rfl)
  refine W.widen (k := 0) (n := 0) (by decide +kernel) (by decide +kernel) ?_
  exact W.vret hx hb hr (fun t ht hW => ⟨⟨(), rfl, trivial, trivial⟩, hS.F ht⟩) hS.2.2 dJ7_fill_031fb_20
set_option maxHeartbeats 4000000 in
set_option maxRecDepth 100000 in
theorem c_X5_init_G0 (l : Launch) (dC : Nat → ClassId) (dI : Nat → Nat → Nat) (h0 : Nat) (hm : Nat) (hn : Nat) (cn : ClassId) (fn : Nat → Int64) (sz : Nat) : Met l yX5_init wsX5_init ({ frames := 10, cells := 1, slots := 0, locals := 300 }) (va_Pc [.ref h0, .ref hm, .ref hn] (fun U => U.heap.size = sz ∧ va_P (dC, dI) vwCl [(h0, .inr (3, [.null, .null, .null, .int 0, .int 0, .null, .int 0])), (hn, .inl (cn, 0, .inr (.inl (fn))))] U.heap ∧ va_K (dC, dI) vwCl [(cn, .long)] U ∧ va_D (fun _ => True) [(h0, .inr (3, [.null, .null, .null, .int 0, .int 0, .null, .int 0])), (hn, .inl (cn, 0, .inr (.inl (fn))))])) (va_Qv (fun _ : Nat => True) (fun (u : Nat) (t : State) => va_P (dC, dI) vwCl [(h0, .inr (3, [.ref hm, .ref hn, .ref u, .int 0, .int 0, .null, .int 0]))] t.heap ∧ va_K (dC, dI) vwCl [] t ∧ va_D (va_A [(h0, .inr (3, [.null, .null, .null, .int 0, .int 0, .null, .int 0])), (hn, .inl (cn, 0, .inr (.inl (fn))))] sz) [(h0, .inr (3, [.ref hm, .ref hn, .ref u, .int 0, .int 0, .null, .int 0]))]) (va_A [(h0, .inr (3, [.null, .null, .null, .int 0, .int 0, .null, .int 0])), (hn, .inl (cn, 0, .inr (.inl (fn))))] sz)) 1 0 (va_A [(h0, .inr (3, [.null, .null, .null, .int 0, .int 0, .null, .int 0])), (hn, .inl (cn, 0, .inr (.inl (fn))))] sz) := by
  refine Met.ofW (cc := cX5_init) (maxL := 3) (ret := none) (by decide) rfl ?_
  intro p e s m args below meth c s₁ B hml hv
  obtain ⟨rfl, hsz, hP, hK, hD0⟩ := hv
  have hx := B.exec
  have hb := B.bytes
  have hr := B.returns
  have hts := atoms_spec (ws := wsX5_init) B.pre
  have hown : s.vm.findClass RX5 = some m.cls := findClass_of_methodNamed B.named
  have hlocks := B.notSynchronized
  have hin : meth.name = "<init>" := (name_of_methodNamed B.named B.method).1
  subst hsz
  have hD := hD0.self (sz := s.heap.size)
  generalize hAe : va_A [(h0, .inr (3, [.null, .null, .null, .int 0, .int 0, .null, .int 0])), (hn, .inl (cn, 0, .inr (.inl (fn))))] s.heap.size = A at hD ⊢
  have hA : ∀ q : Nat, s.heap.size ≤ q → A q := fun q h => by rw [← hAe]; exact Or.inr h
  generalize hH : s.heap = H at hP ⊢
  have hS : va_S A s.heap H [] := by rw [← hH]; exact va_S.rf
  have hl := lv_entry [.ref h0, .ref hm, .ref hn] (n := 3) (Nat.le_of_ble_eq_true rfl)
  rw [lg_entry_eq]
  generalize (lg_sl [.ref h0, .ref hm, .ref hn] ++ List.replicate (3 - (lg_sl [.ref h0, .ref hm, .ref hn]).length) Slot.unset).toArray = ls at hl ⊢
  have hl : lv_has ls 3 [(0, .ref h0), (1, .ref hm), (2, .ref hn)] := hl
  have hP : va_P (dC, dI) vwCl [(h0, .inr (3, [.null, .null, .null, .int 0, .int 0, .null, .int 0])), (hn, .inl (cn, 0, .inr (.inl (fn))))] H := hP
  refine lv_aload_n hx hb dX5_init_0 rfl (lv_at hl 0 rfl) ?_
  refine W.objInit hx hb hown (hts (.methodLink RX5 3 objectInit) (by decide +kernel)) (hts (.instanceMethod objectInit) (by decide +kernel)) (hts (.code objectInit ⟨#[0xb1]⟩ 1 none) (by decide +kernel)) rfl (by rw [hml]; exact hl.1) rfl dX5_init_1 (Nat.le_of_ble_eq_true rfl) (Nat.le_of_ble_eq_true rfl) ?_
  refine W.eq (g2 := F0 m 4 ls []) rfl ?_
  refine lv_aload_n hx hb dX5_init_4 rfl (lv_at hl 0 rfl) ?_
  refine lv_aload_n hx hb dX5_init_5 rfl (lv_at hl 1 rfl) ?_
  refine va_putF (D := (dC, dI)) (ci := 3) (v := .ref hm) (ty := (.object "NeededLists$Meter")) (C := RX3) (T := TX3) (N := 7) hx hb hts (by decide +kernel) tyX3 tyX3_ok nmX3 hown hK hP hD hS 0 rfl rfl 0 (by decide) (hts (.fieldLink RX5 9 "NeededLists$LazyList" "meter" "LNeededLists$Meter;") (by decide +kernel)) (fun _ h9 => h9) rfl hin rfl (by decide +kernel) rfl rfl (Nat.le_of_ble_eq_true rfl) dX5_init_6 (fun H locs hP hD hS => ?_)
  have hP : va_P (dC, dI) vwCl [(h0, .inr (3, [.ref hm, .null, .null, .int 0, .int 0, .null, .int 0])), (hn, .inl (cn, 0, .inr (.inl (fn))))] H := hP
  have hD : va_D A [(h0, .inr (3, [.ref hm, .null, .null, .int 0, .int 0, .null, .int 0])), (hn, .inl (cn, 0, .inr (.inl (fn))))] := hD
  refine lv_aload_n hx hb dX5_init_9 rfl (lv_at hl 0 rfl) ?_
  refine lv_aload_n hx hb dX5_init_10 rfl (lv_at hl 2 rfl) ?_
  refine va_putF (D := (dC, dI)) (ci := 3) (v := .ref hn) (ty := (.array .long)) (C := RX3) (T := TX3) (N := 7) hx hb hts (by decide +kernel) tyX3 tyX3_ok nmX3 hown hK hP hD hS 0 rfl rfl 1 (by decide) (hts (.fieldLink RX5 15 "NeededLists$LazyList" "numbers" "[J") (by decide +kernel)) (fun _ h9 => h9) rfl hin rfl (by decide +kernel) rfl rfl (Nat.le_of_ble_eq_true rfl) dX5_init_11 (fun H locs hP hD hS => ?_)
  have hP : va_P (dC, dI) vwCl [(h0, .inr (3, [.ref hm, .ref hn, .null, .int 0, .int 0, .null, .int 0])), (hn, .inl (cn, 0, .inr (.inl (fn))))] H := hP
  have hD : va_D A [(h0, .inr (3, [.ref hm, .ref hn, .null, .int 0, .int 0, .null, .int 0])), (hn, .inl (cn, 0, .inr (.inl (fn))))] := hD
  refine lv_aload_n hx hb dX5_init_14 rfl (lv_at hl 0 rfl) ?_
  refine lv_aload_n hx hb dX5_init_15 rfl (lv_at hl 2 rfl) ?_
  refine va_alen (v := 0) hx hb hK hP 1 0 rfl rfl rfl dX5_init_16 ?_
  refine va_newa (atype := .byte) (ty := .byte) (N' := 0) (a0 := (0, .inl (fun _ => 0))) hx hb (hts (.arrayClass .byte) (by decide +kernel)) rfl hK hP hD hS hA (nd_abyte 0) (by decide +kernel) (by decide +kernel) (by decide +kernel) (by decide +kernel) (by decide +kernel) dX5_init_17 (fun q_1 cA_2 H hK hP hD hS => ?_)
  have hP : va_P (dC, dI) vwCl [(h0, .inr (3, [.ref hm, .ref hn, .null, .int 0, .int 0, .null, .int 0])), (hn, .inl (cn, 0, .inr (.inl (fn)))), (q_1, .inl (cA_2, 0, .inl (fun _ => 0)))] H := hP
  have hD : va_D A [(h0, .inr (3, [.ref hm, .ref hn, .null, .int 0, .int 0, .null, .int 0])), (hn, .inl (cn, 0, .inr (.inl (fn)))), (q_1, .inl (cA_2, 0, .inl (fun _ => 0)))] := hD
  have hK : va_K (dC, dI) vwCl [(cn, .long), (cA_2, .byte)] s := hK
  refine W.widen (k := 1) (n := 0) (by decide +kernel) (by decide +kernel) ?_
  refine va_putF (D := (dC, dI)) (ci := 3) (v := .ref q_1) (ty := (.array .byte)) (C := RX3) (T := TX3) (N := 7) hx hb hts (by decide +kernel) tyX3 tyX3_ok nmX3 hown hK hP hD hS 0 rfl rfl 2 (by decide) (hts (.fieldLink RX5 19 "NeededLists$LazyList" "marks" "[B") (by decide +kernel)) (fun _ h9 => h9) rfl hin rfl (by decide +kernel) rfl rfl (Nat.le_of_ble_eq_true rfl) dX5_init_19 (fun H locs hP hD hS => ?_)
  have hP : va_P (dC, dI) vwCl [(h0, .inr (3, [.ref hm, .ref hn, .ref q_1, .int 0, .int 0, .null, .int 0])), (hn, .inl (cn, 0, .inr (.inl (fn)))), (q_1, .inl (cA_2, 0, .inl (fun _ => 0)))] H := hP
  have hD : va_D A [(h0, .inr (3, [.ref hm, .ref hn, .ref q_1, .int 0, .int 0, .null, .int 0])), (hn, .inl (cn, 0, .inr (.inl (fn)))), (q_1, .inl (cA_2, 0, .inl (fun _ => 0)))] := hD
  refine W.widen (k := 1) (n := 0) (by decide +kernel) (by decide +kernel) ?_
  have hP9 := hP.sub (ws' := [(h0, .inr (3, [.ref hm, .ref hn, .ref q_1, .int 0, .int 0, .null, .int 0]))]) [0] rfl
  have hD9 := hD.sub (ws' := [(h0, .inr (3, [.ref hm, .ref hn, .ref q_1, .int 0, .int 0, .null, .int 0]))]) [0] (by decide) rfl
  have hK9 := hK.sub (tys' := []) [] rfl
  exact W.vret hx hb hr (fun t ht hW => ⟨⟨q_1, rfl, trivial, by rw [ht]; exact hP9, va_K.moved hW.alike hK9, hD9⟩, hS.F ht⟩) hS.2.2 dX5_init_22
set_option maxHeartbeats 4000000 in
set_option maxRecDepth 100000 in
theorem c_X5_init_G400 (l : Launch) (dC : Nat → ClassId) (dI : Nat → Nat → Nat) (h0 : Nat) (hm : Nat) (hn : Nat) (cn : ClassId) (fn : Nat → Int64) (sz : Nat) : Met l yX5_init wsX5_init ({ frames := 10, cells := 1, slots := 400, locals := 300 }) (va_Pc [.ref h0, .ref hm, .ref hn] (fun U => U.heap.size = sz ∧ va_P (dC, dI) vwCl [(h0, .inr (3, [.null, .null, .null, .int 0, .int 0, .null, .int 0])), (hn, .inl (cn, 400, .inr (.inl (fn))))] U.heap ∧ va_K (dC, dI) vwCl [(cn, .long)] U ∧ va_D (fun _ => True) [(h0, .inr (3, [.null, .null, .null, .int 0, .int 0, .null, .int 0])), (hn, .inl (cn, 400, .inr (.inl (fn))))])) (va_Qv (fun _ : Nat => True) (fun (u : Nat) (t : State) => va_P (dC, dI) vwCl [(h0, .inr (3, [.ref hm, .ref hn, .ref u, .int 0, .int 0, .null, .int 0]))] t.heap ∧ va_K (dC, dI) vwCl [] t ∧ va_D (va_A [(h0, .inr (3, [.null, .null, .null, .int 0, .int 0, .null, .int 0])), (hn, .inl (cn, 400, .inr (.inl (fn))))] sz) [(h0, .inr (3, [.ref hm, .ref hn, .ref u, .int 0, .int 0, .null, .int 0]))]) (va_A [(h0, .inr (3, [.null, .null, .null, .int 0, .int 0, .null, .int 0])), (hn, .inl (cn, 400, .inr (.inl (fn))))] sz)) 1 400 (va_A [(h0, .inr (3, [.null, .null, .null, .int 0, .int 0, .null, .int 0])), (hn, .inl (cn, 400, .inr (.inl (fn))))] sz) := by
  refine Met.ofW (cc := cX5_init) (maxL := 3) (ret := none) (by decide) rfl ?_
  intro p e s m args below meth c s₁ B hml hv
  obtain ⟨rfl, hsz, hP, hK, hD0⟩ := hv
  have hx := B.exec
  have hb := B.bytes
  have hr := B.returns
  have hts := atoms_spec (ws := wsX5_init) B.pre
  have hown : s.vm.findClass RX5 = some m.cls := findClass_of_methodNamed B.named
  have hlocks := B.notSynchronized
  have hin : meth.name = "<init>" := (name_of_methodNamed B.named B.method).1
  subst hsz
  have hD := hD0.self (sz := s.heap.size)
  generalize hAe : va_A [(h0, .inr (3, [.null, .null, .null, .int 0, .int 0, .null, .int 0])), (hn, .inl (cn, 400, .inr (.inl (fn))))] s.heap.size = A at hD ⊢
  have hA : ∀ q : Nat, s.heap.size ≤ q → A q := fun q h => by rw [← hAe]; exact Or.inr h
  generalize hH : s.heap = H at hP ⊢
  have hS : va_S A s.heap H [] := by rw [← hH]; exact va_S.rf
  have hl := lv_entry [.ref h0, .ref hm, .ref hn] (n := 3) (Nat.le_of_ble_eq_true rfl)
  rw [lg_entry_eq]
  generalize (lg_sl [.ref h0, .ref hm, .ref hn] ++ List.replicate (3 - (lg_sl [.ref h0, .ref hm, .ref hn]).length) Slot.unset).toArray = ls at hl ⊢
  have hl : lv_has ls 3 [(0, .ref h0), (1, .ref hm), (2, .ref hn)] := hl
  have hP : va_P (dC, dI) vwCl [(h0, .inr (3, [.null, .null, .null, .int 0, .int 0, .null, .int 0])), (hn, .inl (cn, 400, .inr (.inl (fn))))] H := hP
  refine lv_aload_n hx hb dX5_init_0 rfl (lv_at hl 0 rfl) ?_
  refine W.objInit hx hb hown (hts (.methodLink RX5 3 objectInit) (by decide +kernel)) (hts (.instanceMethod objectInit) (by decide +kernel)) (hts (.code objectInit ⟨#[0xb1]⟩ 1 none) (by decide +kernel)) rfl (by rw [hml]; exact hl.1) rfl dX5_init_1 (Nat.le_of_ble_eq_true rfl) (Nat.le_of_ble_eq_true rfl) ?_
  refine W.eq (g2 := F0 m 4 ls []) rfl ?_
  refine lv_aload_n hx hb dX5_init_4 rfl (lv_at hl 0 rfl) ?_
  refine lv_aload_n hx hb dX5_init_5 rfl (lv_at hl 1 rfl) ?_
  refine va_putF (D := (dC, dI)) (ci := 3) (v := .ref hm) (ty := (.object "NeededLists$Meter")) (C := RX3) (T := TX3) (N := 7) hx hb hts (by decide +kernel) tyX3 tyX3_ok nmX3 hown hK hP hD hS 0 rfl rfl 0 (by decide) (hts (.fieldLink RX5 9 "NeededLists$LazyList" "meter" "LNeededLists$Meter;") (by decide +kernel)) (fun _ h9 => h9) rfl hin rfl (by decide +kernel) rfl rfl (Nat.le_of_ble_eq_true rfl) dX5_init_6 (fun H locs hP hD hS => ?_)
  have hP : va_P (dC, dI) vwCl [(h0, .inr (3, [.ref hm, .null, .null, .int 0, .int 0, .null, .int 0])), (hn, .inl (cn, 400, .inr (.inl (fn))))] H := hP
  have hD : va_D A [(h0, .inr (3, [.ref hm, .null, .null, .int 0, .int 0, .null, .int 0])), (hn, .inl (cn, 400, .inr (.inl (fn))))] := hD
  refine lv_aload_n hx hb dX5_init_9 rfl (lv_at hl 0 rfl) ?_
  refine lv_aload_n hx hb dX5_init_10 rfl (lv_at hl 2 rfl) ?_
  refine va_putF (D := (dC, dI)) (ci := 3) (v := .ref hn) (ty := (.array .long)) (C := RX3) (T := TX3) (N := 7) hx hb hts (by decide +kernel) tyX3 tyX3_ok nmX3 hown hK hP hD hS 0 rfl rfl 1 (by decide) (hts (.fieldLink RX5 15 "NeededLists$LazyList" "numbers" "[J") (by decide +kernel)) (fun _ h9 => h9) rfl hin rfl (by decide +kernel) rfl rfl (Nat.le_of_ble_eq_true rfl) dX5_init_11 (fun H locs hP hD hS => ?_)
  have hP : va_P (dC, dI) vwCl [(h0, .inr (3, [.ref hm, .ref hn, .null, .int 0, .int 0, .null, .int 0])), (hn, .inl (cn, 400, .inr (.inl (fn))))] H := hP
  have hD : va_D A [(h0, .inr (3, [.ref hm, .ref hn, .null, .int 0, .int 0, .null, .int 0])), (hn, .inl (cn, 400, .inr (.inl (fn))))] := hD
  refine lv_aload_n hx hb dX5_init_14 rfl (lv_at hl 0 rfl) ?_
  refine lv_aload_n hx hb dX5_init_15 rfl (lv_at hl 2 rfl) ?_
  refine va_alen (v := 400) hx hb hK hP 1 0 rfl rfl rfl dX5_init_16 ?_
  refine va_newa (atype := .byte) (ty := .byte) (N' := 400) (a0 := (400, .inl (fun _ => 0))) hx hb (hts (.arrayClass .byte) (by decide +kernel)) rfl hK hP hD hS hA (nd_abyte 400) (by decide +kernel) (by decide +kernel) (by decide +kernel) (by decide +kernel) (by decide +kernel) dX5_init_17 (fun q_1 cA_2 H hK hP hD hS => ?_)
  have hP : va_P (dC, dI) vwCl [(h0, .inr (3, [.ref hm, .ref hn, .null, .int 0, .int 0, .null, .int 0])), (hn, .inl (cn, 400, .inr (.inl (fn)))), (q_1, .inl (cA_2, 400, .inl (fun _ => 0)))] H := hP
  have hD : va_D A [(h0, .inr (3, [.ref hm, .ref hn, .null, .int 0, .int 0, .null, .int 0])), (hn, .inl (cn, 400, .inr (.inl (fn)))), (q_1, .inl (cA_2, 400, .inl (fun _ => 0)))] := hD
  have hK : va_K (dC, dI) vwCl [(cn, .long), (cA_2, .byte)] s := hK
  refine W.widen (k := 1) (n := 400) (by decide +kernel) (by decide +kernel) ?_
  refine va_putF (D := (dC, dI)) (ci := 3) (v := .ref q_1) (ty := (.array .byte)) (C := RX3) (T := TX3) (N := 7) hx hb hts (by decide +kernel) tyX3 tyX3_ok nmX3 hown hK hP hD hS 0 rfl rfl 2 (by decide) (hts (.fieldLink RX5 19 "NeededLists$LazyList" "marks" "[B") (by decide +kernel)) (fun _ h9 => h9) rfl hin rfl (by decide +kernel) rfl rfl (Nat.le_of_ble_eq_true rfl) dX5_init_19 (fun H locs hP hD hS => ?_)
  have hP : va_P (dC, dI) vwCl [(h0, .inr (3, [.ref hm, .ref hn, .ref q_1, .int 0, .int 0, .null, .int 0])), (hn, .inl (cn, 400, .inr (.inl (fn)))), (q_1, .inl (cA_2, 400, .inl (fun _ => 0)))] H := hP
  have hD : va_D A [(h0, .inr (3, [.ref hm, .ref hn, .ref q_1, .int 0, .int 0, .null, .int 0])), (hn, .inl (cn, 400, .inr (.inl (fn)))), (q_1, .inl (cA_2, 400, .inl (fun _ => 0)))] := hD
  refine W.widen (k := 1) (n := 400) (by decide +kernel) (by decide +kernel) ?_
  have hP9 := hP.sub (ws' := [(h0, .inr (3, [.ref hm, .ref hn, .ref q_1, .int 0, .int 0, .null, .int 0]))]) [0] rfl
  have hD9 := hD.sub (ws' := [(h0, .inr (3, [.ref hm, .ref hn, .ref q_1, .int 0, .int 0, .null, .int 0]))]) [0] (by decide) rfl
  have hK9 := hK.sub (tys' := []) [] rfl
  exact W.vret hx hb hr (fun t ht hW => ⟨⟨q_1, rfl, trivial, by rw [ht]; exact hP9, va_K.moved hW.alike hK9, hD9⟩, hS.F ht⟩) hS.2.2 dX5_init_22
set_option maxHeartbeats 4000000 in
set_option maxRecDepth 100000 in
theorem c_X5_init_C400 (l : Launch) (dC : Nat → ClassId) (dI : Nat → Nat → Nat) (h0 : Nat) (hm : Nat) (hn : Nat) (cn : ClassId) (fn : Nat → Int64) (sz : Nat) : Met l yX5_init wsX5_init ({ frames := 10, cells := 1, slots := 400, locals := 300 }) (va_Pc [.ref h0, .ref hm, .ref hn] (fun U => U.heap.size = sz ∧ va_P (dC, dI) vwCl [(h0, .inr (0, [.null, .null, .null, .int 0, .int 0, .null, .int 0, .long 0, .long 0])), (hn, .inl (cn, 400, .inr (.inl (fn))))] U.heap ∧ va_K (dC, dI) vwCl [(cn, .long)] U ∧ va_D (fun _ => True) [(h0, .inr (0, [.null, .null, .null, .int 0, .int 0, .null, .int 0, .long 0, .long 0])), (hn, .inl (cn, 400, .inr (.inl (fn))))])) (va_Qv (fun _ : Nat => True) (fun (u : Nat) (t : State) => va_P (dC, dI) vwCl [(h0, .inr (0, [.ref hm, .ref hn, .ref u, .int 0, .int 0, .null, .int 0, .long 0, .long 0]))] t.heap ∧ va_K (dC, dI) vwCl [] t ∧ va_D (va_A [(h0, .inr (0, [.null, .null, .null, .int 0, .int 0, .null, .int 0, .long 0, .long 0])), (hn, .inl (cn, 400, .inr (.inl (fn))))] sz) [(h0, .inr (0, [.ref hm, .ref hn, .ref u, .int 0, .int 0, .null, .int 0, .long 0, .long 0]))]) (va_A [(h0, .inr (0, [.null, .null, .null, .int 0, .int 0, .null, .int 0, .long 0, .long 0])), (hn, .inl (cn, 400, .inr (.inl (fn))))] sz)) 1 400 (va_A [(h0, .inr (0, [.null, .null, .null, .int 0, .int 0, .null, .int 0, .long 0, .long 0])), (hn, .inl (cn, 400, .inr (.inl (fn))))] sz) := by
  refine Met.ofW (cc := cX5_init) (maxL := 3) (ret := none) (by decide) rfl ?_
  intro p e s m args below meth c s₁ B hml hv
  obtain ⟨rfl, hsz, hP, hK, hD0⟩ := hv
  have hx := B.exec
  have hb := B.bytes
  have hr := B.returns
  have hts := atoms_spec (ws := wsX5_init) B.pre
  have hown : s.vm.findClass RX5 = some m.cls := findClass_of_methodNamed B.named
  have hlocks := B.notSynchronized
  have hin : meth.name = "<init>" := (name_of_methodNamed B.named B.method).1
  subst hsz
  have hD := hD0.self (sz := s.heap.size)
  generalize hAe : va_A [(h0, .inr (0, [.null, .null, .null, .int 0, .int 0, .null, .int 0, .long 0, .long 0])), (hn, .inl (cn, 400, .inr (.inl (fn))))] s.heap.size = A at hD ⊢
  have hA : ∀ q : Nat, s.heap.size ≤ q → A q := fun q h => by rw [← hAe]; exact Or.inr h
  generalize hH : s.heap = H at hP ⊢
  have hS : va_S A s.heap H [] := by rw [← hH]; exact va_S.rf
  have hl := lv_entry [.ref h0, .ref hm, .ref hn] (n := 3) (Nat.le_of_ble_eq_true rfl)
  rw [lg_entry_eq]
  generalize (lg_sl [.ref h0, .ref hm, .ref hn] ++ List.replicate (3 - (lg_sl [.ref h0, .ref hm, .ref hn]).length) Slot.unset).toArray = ls at hl ⊢
  have hl : lv_has ls 3 [(0, .ref h0), (1, .ref hm), (2, .ref hn)] := hl
  have hP : va_P (dC, dI) vwCl [(h0, .inr (0, [.null, .null, .null, .int 0, .int 0, .null, .int 0, .long 0, .long 0])), (hn, .inl (cn, 400, .inr (.inl (fn))))] H := hP
  refine lv_aload_n hx hb dX5_init_0 rfl (lv_at hl 0 rfl) ?_
  refine W.objInit hx hb hown (hts (.methodLink RX5 3 objectInit) (by decide +kernel)) (hts (.instanceMethod objectInit) (by decide +kernel)) (hts (.code objectInit ⟨#[0xb1]⟩ 1 none) (by decide +kernel)) rfl (by rw [hml]; exact hl.1) rfl dX5_init_1 (Nat.le_of_ble_eq_true rfl) (Nat.le_of_ble_eq_true rfl) ?_
  refine W.eq (g2 := F0 m 4 ls []) rfl ?_
  refine lv_aload_n hx hb dX5_init_4 rfl (lv_at hl 0 rfl) ?_
  refine lv_aload_n hx hb dX5_init_5 rfl (lv_at hl 1 rfl) ?_
  refine va_putF (D := (dC, dI)) (ci := 0) (v := .ref hm) (ty := (.object "NeededLists$Meter")) (C := RX0) (T := TX0) (N := 9) hx hb hts (by decide +kernel) tyX0 tyX0_ok nmX0 hown hK hP hD hS 0 rfl rfl 0 (by decide) (hts (.fieldLink RX5 9 "NeededLists$LazyList" "meter" "LNeededLists$Meter;") (by decide +kernel)) (fun _ h9 => h9) rfl hin rfl (by decide +kernel) rfl rfl (Nat.le_of_ble_eq_true rfl) dX5_init_6 (fun H locs hP hD hS => ?_)
  have hP : va_P (dC, dI) vwCl [(h0, .inr (0, [.ref hm, .null, .null, .int 0, .int 0, .null, .int 0, .long 0, .long 0])), (hn, .inl (cn, 400, .inr (.inl (fn))))] H := hP
  have hD : va_D A [(h0, .inr (0, [.ref hm, .null, .null, .int 0, .int 0, .null, .int 0, .long 0, .long 0])), (hn, .inl (cn, 400, .inr (.inl (fn))))] := hD
  refine lv_aload_n hx hb dX5_init_9 rfl (lv_at hl 0 rfl) ?_
  refine lv_aload_n hx hb dX5_init_10 rfl (lv_at hl 2 rfl) ?_
  refine va_putF (D := (dC, dI)) (ci := 0) (v := .ref hn) (ty := (.array .long)) (C := RX0) (T := TX0) (N := 9) hx hb hts (by decide +kernel) tyX0 tyX0_ok nmX0 hown hK hP hD hS 0 rfl rfl 1 (by decide) (hts (.fieldLink RX5 15 "NeededLists$LazyList" "numbers" "[J") (by decide +kernel)) (fun _ h9 => h9) rfl hin rfl (by decide +kernel) rfl rfl (Nat.le_of_ble_eq_true rfl) dX5_init_11 (fun H locs hP hD hS => ?_)
  have hP : va_P (dC, dI) vwCl [(h0, .inr (0, [.ref hm, .ref hn, .null, .int 0, .int 0, .null, .int 0, .long 0, .long 0])), (hn, .inl (cn, 400, .inr (.inl (fn))))] H := hP
  have hD : va_D A [(h0, .inr (0, [.ref hm, .ref hn, .null, .int 0, .int 0, .null, .int 0, .long 0, .long 0])), (hn, .inl (cn, 400, .inr (.inl (fn))))] := hD
  refine lv_aload_n hx hb dX5_init_14 rfl (lv_at hl 0 rfl) ?_
  refine lv_aload_n hx hb dX5_init_15 rfl (lv_at hl 2 rfl) ?_
  refine va_alen (v := 400) hx hb hK hP 1 0 rfl rfl rfl dX5_init_16 ?_
  refine va_newa (atype := .byte) (ty := .byte) (N' := 400) (a0 := (400, .inl (fun _ => 0))) hx hb (hts (.arrayClass .byte) (by decide +kernel)) rfl hK hP hD hS hA (nd_abyte 400) (by decide +kernel) (by decide +kernel) (by decide +kernel) (by decide +kernel) (by decide +kernel) dX5_init_17 (fun q_1 cA_2 H hK hP hD hS => ?_)
  have hP : va_P (dC, dI) vwCl [(h0, .inr (0, [.ref hm, .ref hn, .null, .int 0, .int 0, .null, .int 0, .long 0, .long 0])), (hn, .inl (cn, 400, .inr (.inl (fn)))), (q_1, .inl (cA_2, 400, .inl (fun _ => 0)))] H := hP
  have hD : va_D A [(h0, .inr (0, [.ref hm, .ref hn, .null, .int 0, .int 0, .null, .int 0, .long 0, .long 0])), (hn, .inl (cn, 400, .inr (.inl (fn)))), (q_1, .inl (cA_2, 400, .inl (fun _ => 0)))] := hD
  have hK : va_K (dC, dI) vwCl [(cn, .long), (cA_2, .byte)] s := hK
  refine W.widen (k := 1) (n := 400) (by decide +kernel) (by decide +kernel) ?_
  refine va_putF (D := (dC, dI)) (ci := 0) (v := .ref q_1) (ty := (.array .byte)) (C := RX0) (T := TX0) (N := 9) hx hb hts (by decide +kernel) tyX0 tyX0_ok nmX0 hown hK hP hD hS 0 rfl rfl 2 (by decide) (hts (.fieldLink RX5 19 "NeededLists$LazyList" "marks" "[B") (by decide +kernel)) (fun _ h9 => h9) rfl hin rfl (by decide +kernel) rfl rfl (Nat.le_of_ble_eq_true rfl) dX5_init_19 (fun H locs hP hD hS => ?_)
  have hP : va_P (dC, dI) vwCl [(h0, .inr (0, [.ref hm, .ref hn, .ref q_1, .int 0, .int 0, .null, .int 0, .long 0, .long 0])), (hn, .inl (cn, 400, .inr (.inl (fn)))), (q_1, .inl (cA_2, 400, .inl (fun _ => 0)))] H := hP
  have hD : va_D A [(h0, .inr (0, [.ref hm, .ref hn, .ref q_1, .int 0, .int 0, .null, .int 0, .long 0, .long 0])), (hn, .inl (cn, 400, .inr (.inl (fn)))), (q_1, .inl (cA_2, 400, .inl (fun _ => 0)))] := hD
  refine W.widen (k := 1) (n := 400) (by decide +kernel) (by decide +kernel) ?_
  have hP9 := hP.sub (ws' := [(h0, .inr (0, [.ref hm, .ref hn, .ref q_1, .int 0, .int 0, .null, .int 0, .long 0, .long 0]))]) [0] rfl
  have hD9 := hD.sub (ws' := [(h0, .inr (0, [.ref hm, .ref hn, .ref q_1, .int 0, .int 0, .null, .int 0, .long 0, .long 0]))]) [0] (by decide) rfl
  have hK9 := hK.sub (tys' := []) [] rfl
  exact W.vret hx hb hr (fun t ht hW => ⟨⟨q_1, rfl, trivial, by rw [ht]; exact hP9, va_K.moved hW.alike hK9, hD9⟩, hS.F ht⟩) hS.2.2 dX5_init_22
set_option maxHeartbeats 4000000 in
set_option maxRecDepth 100000 in
theorem c_X3_init_0 (l : Launch) (dC : Nat → ClassId) (dI : Nat → Nat → Nat) (h0 : Nat) (hm : Nat) (hn : Nat) (hf : Nat) (cn : ClassId) (fn : Nat → Int64) (p0 : Int32) (sz : Nat) : Met l yX3_init wsX3_init ({ frames := 20, cells := 1, slots := 0, locals := 600 }) (va_Pc [.ref h0, .ref hm, .ref hn, .ref hf, .int p0] (fun U => U.heap.size = sz ∧ va_P (dC, dI) vwCl [(h0, .inr (3, [.null, .null, .null, .int 0, .int 0, .null, .int 0])), (hn, .inl (cn, 0, .inr (.inl (fn))))] U.heap ∧ va_K (dC, dI) vwCl [(cn, .long)] U ∧ va_D (fun _ => True) [(h0, .inr (3, [.null, .null, .null, .int 0, .int 0, .null, .int 0])), (hn, .inl (cn, 0, .inr (.inl (fn))))])) (va_Qv (fun _ : Nat => True) (fun (u : Nat) (t : State) => va_P (dC, dI) vwCl [(h0, .inr (3, [.ref hm, .ref hn, .ref u, .int 0, .int 0, .ref hf, .int p0]))] t.heap ∧ va_K (dC, dI) vwCl [] t ∧ va_D (va_A [(h0, .inr (3, [.null, .null, .null, .int 0, .int 0, .null, .int 0])), (hn, .inl (cn, 0, .inr (.inl (fn))))] sz) [(h0, .inr (3, [.ref hm, .ref hn, .ref u, .int 0, .int 0, .ref hf, .int p0]))]) (va_A [(h0, .inr (3, [.null, .null, .null, .int 0, .int 0, .null, .int 0])), (hn, .inl (cn, 0, .inr (.inl (fn))))] sz)) 1 0 (va_A [(h0, .inr (3, [.null, .null, .null, .int 0, .int 0, .null, .int 0])), (hn, .inl (cn, 0, .inr (.inl (fn))))] sz) := by
  refine Met.ofW (cc := cX3_init) (maxL := 5) (ret := none) (by decide) rfl ?_
  intro p e s m args below meth c s₁ B hml hv
  obtain ⟨rfl, hsz, hP, hK, hD0⟩ := hv
  have hx := B.exec
  have hb := B.bytes
  have hr := B.returns
  have hts := atoms_spec (ws := wsX3_init) B.pre
  have hown : s.vm.findClass RX3 = some m.cls := findClass_of_methodNamed B.named
  have hlocks := B.notSynchronized
  have hin : meth.name = "<init>" := (name_of_methodNamed B.named B.method).1
  subst hsz
  have hD := hD0.self (sz := s.heap.size)
  generalize hAe : va_A [(h0, .inr (3, [.null, .null, .null, .int 0, .int 0, .null, .int 0])), (hn, .inl (cn, 0, .inr (.inl (fn))))] s.heap.size = A at hD ⊢
  have hA : ∀ q : Nat, s.heap.size ≤ q → A q := fun q h => by rw [← hAe]; exact Or.inr h
  generalize hH : s.heap = H at hP ⊢
  have hS : va_S A s.heap H [] := by rw [← hH]; exact va_S.rf
  have hl := lv_entry [.ref h0, .ref hm, .ref hn, .ref hf, .int p0] (n := 5) (Nat.le_of_ble_eq_true rfl)
  rw [lg_entry_eq]
  generalize (lg_sl [.ref h0, .ref hm, .ref hn, .ref hf, .int p0] ++ List.replicate (5 - (lg_sl [.ref h0, .ref hm, .ref hn, .ref hf, .int p0]).length) Slot.unset).toArray = ls at hl ⊢
  have hl : lv_has ls 5 [(0, .ref h0), (1, .ref hm), (2, .ref hn), (3, .ref hf), (4, .int p0)] := hl
  have hP : va_P (dC, dI) vwCl [(h0, .inr (3, [.null, .null, .null, .int 0, .int 0, .null, .int 0])), (hn, .inl (cn, 0, .inr (.inl (fn))))] H := hP
  refine lv_aload_n hx hb dX3_init_0 rfl (lv_at hl 0 rfl) ?_
  refine lv_aload_n hx hb dX3_init_1 rfl (lv_at hl 1 rfl) ?_
  refine lv_aload_n hx hb dX3_init_2 rfl (lv_at hl 2 rfl) ?_
  have hPc := hP.sub (ws' := [(h0, .inr (3, [.null, .null, .null, .int 0, .int 0, .null, .int 0])), (hn, .inl (cn, 0, .inr (.inl (fn))))]) [0, 1] rfl
  have hDc := hD.sub (ws' := [(h0, .inr (3, [.null, .null, .null, .int 0, .int 0, .null, .int 0])), (hn, .inl (cn, 0, .inr (.inl (fn))))]) [0, 1] (by decide) rfl
  have hKc := hK.sub (tys' := [(cn, .long)]) [0] rfl
  have hFc := va_free (wc := [(h0, .inr (3, [.null, .null, .null, .int 0, .int 0, .null, .int 0])), (hn, .inl (cn, 0, .inr (.inl (fn))))]) hD hS hA [0, 1] rfl
  refine va_callv (va_runI (As := [.ref hm, .ref hn]) (rest := []) ⟨hx, hb, hml, hown, hts⟩ (c_X5_init_G0 l dC dI h0 hm hn cn fn H.size) (cwI 2 hts gX3_init_X5_init rfl rfl rfl (hts (.initialized RX5) (by decide +kernel)) (hts (.methodLink RX3 3 yX5_init) (by decide +kernel)) (hts (.instanceMethod yX5_init) (by decide +kernel)) rfl (by decide +kernel) ⟨Nat.le_of_ble_eq_true rfl, Nat.le_of_ble_eq_true rfl⟩) ⟨fun a U g mk q => by obtain ⟨q0, q1, qP, qK, qD⟩ := q; exact ⟨q0, q1, qP, va_K.moved (u := U) (U := U.calling g mk a) (Vm.Alike.refl U.vm) qK, qD⟩, fun U hU hW => ⟨rfl, by rw [hU], by rw [hU]; exact hPc, va_K.moved hW.alike hKc, hDc.weaken (fun _ _ _ _ => trivial)⟩⟩ rfl rfl hl.1 rfl (lv_room (Nat.le_of_ble_eq_true rfl)) dX3_init_3 ⟨Nat.le_of_ble_eq_true rfl, Nat.le_of_ble_eq_true rfl⟩) hS (fun q _ h => hFc q h) hFc (fun u_2 t H1 locs ht hvm hw hB hz1 hk1 hS => ?_)
  obtain ⟨hP1, hK1, hD1⟩ := hB
  rw [ht] at hP1
  have hK1 := va_K.moved hvm.symm hK1
  have hK := hK.app hK1
  obtain ⟨hP, hD⟩ := va_join (wr := []) (w1 := [(h0, .inr (3, [.ref hm, .ref hn, .ref u_2, .int 0, .int 0, .null, .int 0]))]) hP hD [0, 1] [] rfl rfl (by decide) (by decide) hk1 hFc hP1 hD1
  generalize H1 = H at hP hS ⊢
  have hP : va_P (dC, dI) vwCl [(h0, .inr (3, [.ref hm, .ref hn, .ref u_2, .int 0, .int 0, .null, .int 0]))] H := hP
  have hD : va_D A [(h0, .inr (3, [.ref hm, .ref hn, .ref u_2, .int 0, .int 0, .null, .int 0]))] := hD
  have hK : va_K (dC, dI) vwCl [(cn, .long)] s := hK
  refine W.widen (k := 1) (n := 0) (by decide +kernel) (by decide +kernel) ?_
  refine lv_aload_n hx hb dX3_init_6 rfl (lv_at hl 0 rfl) ?_
  refine lv_aload_n hx hb dX3_init_7 rfl (lv_at hl 3 rfl) ?_
  refine va_putF (D := (dC, dI)) (ci := 3) (v := .ref hf) (ty := (.array .byte)) (C := RX3) (T := TX3) (N := 7) hx hb hts (by decide +kernel) tyX3 tyX3_ok nmX3 hown hK hP hD hS 0 rfl rfl 5 (by decide) (hts (.fieldLink RX3 9 "NeededLists$Given" "fates" "[B") (by decide +kernel)) (fun _ h9 => h9) rfl hin rfl (by decide +kernel) rfl rfl (Nat.le_of_ble_eq_true rfl) dX3_init_8 (fun H locs hP hD hS => ?_)
  have hP : va_P (dC, dI) vwCl [(h0, .inr (3, [.ref hm, .ref hn, .ref u_2, .int 0, .int 0, .ref hf, .int 0]))] H := hP
  have hD : va_D A [(h0, .inr (3, [.ref hm, .ref hn, .ref u_2, .int 0, .int 0, .ref hf, .int 0]))] := hD
  refine lv_aload_n hx hb dX3_init_11 rfl (lv_at hl 0 rfl) ?_
  refine lv_iload hx hb dX3_init_12 (lv_at hl 4 rfl) ?_
  refine va_putF (D := (dC, dI)) (ci := 3) (v := .int p0) (ty := .int) (C := RX3) (T := TX3) (N := 7) hx hb hts (by decide +kernel) tyX3 tyX3_ok nmX3 hown hK hP hD hS 0 rfl rfl 6 (by decide) (hts (.fieldLink RX3 15 "NeededLists$Given" "behind" "I") (by decide +kernel)) (fun _ h9 => h9) rfl hin rfl (by decide +kernel) rfl rfl (Nat.le_of_ble_eq_true rfl) dX3_init_14 (fun H locs hP hD hS => ?_)
  have hP : va_P (dC, dI) vwCl [(h0, .inr (3, [.ref hm, .ref hn, .ref u_2, .int 0, .int 0, .ref hf, .int p0]))] H := hP
  have hD : va_D A [(h0, .inr (3, [.ref hm, .ref hn, .ref u_2, .int 0, .int 0, .ref hf, .int p0]))] := hD
  refine W.widen (k := 1) (n := 0) (by decide +kernel) (by decide +kernel) ?_
  have hP9 := hP.sub (ws' := [(h0, .inr (3, [.ref hm, .ref hn, .ref u_2, .int 0, .int 0, .ref hf, .int p0]))]) [0] rfl
  have hD9 := hD.sub (ws' := [(h0, .inr (3, [.ref hm, .ref hn, .ref u_2, .int 0, .int 0, .ref hf, .int p0]))]) [0] (by decide) rfl
  have hK9 := hK.sub (tys' := []) [] rfl
  exact W.vret hx hb hr (fun t ht hW => ⟨⟨u_2, rfl, trivial, by rw [ht]; exact hP9, va_K.moved hW.alike hK9, hD9⟩, hS.F ht⟩) hS.2.2 dX3_init_17
set_option maxHeartbeats 4000000 in
set_option maxRecDepth 100000 in
theorem c_X3_init_400 (l : Launch) (dC : Nat → ClassId) (dI : Nat → Nat → Nat) (h0 : Nat) (hm : Nat) (hn : Nat) (hf : Nat) (cn : ClassId) (fn : Nat → Int64) (p0 : Int32) (sz : Nat) : Met l yX3_init wsX3_init ({ frames := 20, cells := 1, slots := 400, locals := 600 }) (va_Pc [.ref h0, .ref hm, .ref hn, .ref hf, .int p0] (fun U => U.heap.size = sz ∧ va_P (dC, dI) vwCl [(h0, .inr (3, [.null, .null, .null, .int 0, .int 0, .null, .int 0])), (hn, .inl (cn, 400, .inr (.inl (fn))))] U.heap ∧ va_K (dC, dI) vwCl [(cn, .long)] U ∧ va_D (fun _ => True) [(h0, .inr (3, [.null, .null, .null, .int 0, .int 0, .null, .int 0])), (hn, .inl (cn, 400, .inr (.inl (fn))))])) (va_Qv (fun _ : Nat => True) (fun (u : Nat) (t : State) => va_P (dC, dI) vwCl [(h0, .inr (3, [.ref hm, .ref hn, .ref u, .int 0, .int 0, .ref hf, .int p0]))] t.heap ∧ va_K (dC, dI) vwCl [] t ∧ va_D (va_A [(h0, .inr (3, [.null, .null, .null, .int 0, .int 0, .null, .int 0])), (hn, .inl (cn, 400, .inr (.inl (fn))))] sz) [(h0, .inr (3, [.ref hm, .ref hn, .ref u, .int 0, .int 0, .ref hf, .int p0]))]) (va_A [(h0, .inr (3, [.null, .null, .null, .int 0, .int 0, .null, .int 0])), (hn, .inl (cn, 400, .inr (.inl (fn))))] sz)) 1 400 (va_A [(h0, .inr (3, [.null, .null, .null, .int 0, .int 0, .null, .int 0])), (hn, .inl (cn, 400, .inr (.inl (fn))))] sz) := by
  refine Met.ofW (cc := cX3_init) (maxL := 5) (ret := none) (by decide) rfl ?_
  intro p e s m args below meth c s₁ B hml hv
  obtain ⟨rfl, hsz, hP, hK, hD0⟩ := hv
  have hx := B.exec
  have hb := B.bytes
  have hr := B.returns
  have hts := atoms_spec (ws := wsX3_init) B.pre
  have hown : s.vm.findClass RX3 = some m.cls := findClass_of_methodNamed B.named
  have hlocks := B.notSynchronized
  have hin : meth.name = "<init>" := (name_of_methodNamed B.named B.method).1
  subst hsz
  have hD := hD0.self (sz := s.heap.size)
  generalize hAe : va_A [(h0, .inr (3, [.null, .null, .null, .int 0, .int 0, .null, .int 0])), (hn, .inl (cn, 400, .inr (.inl (fn))))] s.heap.size = A at hD ⊢
  have hA : ∀ q : Nat, s.heap.size ≤ q → A q := fun q h => by rw [← hAe]; exact Or.inr h
  generalize hH : s.heap = H at hP ⊢
  have hS : va_S A s.heap H [] := by rw [← hH]; exact va_S.rf
  have hl := lv_entry [.ref h0, .ref hm, .ref hn, .ref hf, .int p0] (n := 5) (Nat.le_of_ble_eq_true rfl)
  rw [lg_entry_eq]
  generalize (lg_sl [.ref h0, .ref hm, .ref hn, .ref hf, .int p0] ++ List.replicate (5 - (lg_sl [.ref h0, .ref hm, .ref hn, .ref hf, .int p0]).length) Slot.unset).toArray = ls at hl ⊢
  have hl : lv_has ls 5 [(0, .ref h0), (1, .ref hm), (2, .ref hn), (3, .ref hf), (4, .int p0)] := hl
  have hP : va_P (dC, dI) vwCl [(h0, .inr (3, [.null, .null, .null, .int 0, .int 0, .null, .int 0])), (hn, .inl (cn, 400, .inr (.inl (fn))))] H := hP
  refine lv_aload_n hx hb dX3_init_0 rfl (lv_at hl 0 rfl) ?_
  refine lv_aload_n hx hb dX3_init_1 rfl (lv_at hl 1 rfl) ?_
  refine lv_aload_n hx hb dX3_init_2 rfl (lv_at hl 2 rfl) ?_
  have hPc := hP.sub (ws' := [(h0, .inr (3, [.null, .null, .null, .int 0, .int 0, .null, .int 0])), (hn, .inl (cn, 400, .inr (.inl (fn))))]) [0, 1] rfl
  have hDc := hD.sub (ws' := [(h0, .inr (3, [.null, .null, .null, .int 0, .int 0, .null, .int 0])), (hn, .inl (cn, 400, .inr (.inl (fn))))]) [0, 1] (by decide) rfl
  have hKc := hK.sub (tys' := [(cn, .long)]) [0] rfl
  have hFc := va_free (wc := [(h0, .inr (3, [.null, .null, .null, .int 0, .int 0, .null, .int 0])), (hn, .inl (cn, 400, .inr (.inl (fn))))]) hD hS hA [0, 1] rfl
  refine va_callv (va_runI (As := [.ref hm, .ref hn]) (rest := []) ⟨hx, hb, hml, hown, hts⟩ (c_X5_init_G400 l dC dI h0 hm hn cn fn H.size) (cwI 2 hts gX3_init_X5_init rfl rfl rfl (hts (.initialized RX5) (by decide +kernel)) (hts (.methodLink RX3 3 yX5_init) (by decide +kernel)) (hts (.instanceMethod yX5_init) (by decide +kernel)) rfl (by decide +kernel) ⟨Nat.le_of_ble_eq_true rfl, Nat.le_of_ble_eq_true rfl⟩) ⟨fun a U g mk q => by obtain ⟨q0, q1, qP, qK, qD⟩ := q; exact ⟨q0, q1, qP, va_K.moved (u := U) (U := U.calling g mk a) (Vm.Alike.refl U.vm) qK, qD⟩, fun U hU hW => ⟨rfl, by rw [hU], by rw [hU]; exact hPc, va_K.moved hW.alike hKc, hDc.weaken (fun _ _ _ _ => trivial)⟩⟩ rfl rfl hl.1 rfl (lv_room (Nat.le_of_ble_eq_true rfl)) dX3_init_3 ⟨Nat.le_of_ble_eq_true rfl, Nat.le_of_ble_eq_true rfl⟩) hS (fun q _ h => hFc q h) hFc (fun u_2 t H1 locs ht hvm hw hB hz1 hk1 hS => ?_)
  obtain ⟨hP1, hK1, hD1⟩ := hB
  rw [ht] at hP1
  have hK1 := va_K.moved hvm.symm hK1
  have hK := hK.app hK1
  obtain ⟨hP, hD⟩ := va_join (wr := []) (w1 := [(h0, .inr (3, [.ref hm, .ref hn, .ref u_2, .int 0, .int 0, .null, .int 0]))]) hP hD [0, 1] [] rfl rfl (by decide) (by decide) hk1 hFc hP1 hD1
  generalize H1 = H at hP hS ⊢
  have hP : va_P (dC, dI) vwCl [(h0, .inr (3, [.ref hm, .ref hn, .ref u_2, .int 0, .int 0, .null, .int 0]))] H := hP
  have hD : va_D A [(h0, .inr (3, [.ref hm, .ref hn, .ref u_2, .int 0, .int 0, .null, .int 0]))] := hD
  have hK : va_K (dC, dI) vwCl [(cn, .long)] s := hK
  refine W.widen (k := 1) (n := 400) (by decide +kernel) (by decide +kernel) ?_
  refine lv_aload_n hx hb dX3_init_6 rfl (lv_at hl 0 rfl) ?_
  refine lv_aload_n hx hb dX3_init_7 rfl (lv_at hl 3 rfl) ?_
  refine va_putF (D := (dC, dI)) (ci := 3) (v := .ref hf) (ty := (.array .byte)) (C := RX3) (T := TX3) (N := 7) hx hb hts (by decide +kernel) tyX3 tyX3_ok nmX3 hown hK hP hD hS 0 rfl rfl 5 (by decide) (hts (.fieldLink RX3 9 "NeededLists$Given" "fates" "[B") (by decide +kernel)) (fun _ h9 => h9) rfl hin rfl (by decide +kernel) rfl rfl (Nat.le_of_ble_eq_true rfl) dX3_init_8 (fun H locs hP hD hS => ?_)
  have hP : va_P (dC, dI) vwCl [(h0, .inr (3, [.ref hm, .ref hn, .ref u_2, .int 0, .int 0, .ref hf, .int 0]))] H := hP
  have hD : va_D A [(h0, .inr (3, [.ref hm, .ref hn, .ref u_2, .int 0, .int 0, .ref hf, .int 0]))] := hD
  refine lv_aload_n hx hb dX3_init_11 rfl (lv_at hl 0 rfl) ?_
  refine lv_iload hx hb dX3_init_12 (lv_at hl 4 rfl) ?_
  refine va_putF (D := (dC, dI)) (ci := 3) (v := .int p0) (ty := .int) (C := RX3) (T := TX3) (N := 7) hx hb hts (by decide +kernel) tyX3 tyX3_ok nmX3 hown hK hP hD hS 0 rfl rfl 6 (by decide) (hts (.fieldLink RX3 15 "NeededLists$Given" "behind" "I") (by decide +kernel)) (fun _ h9 => h9) rfl hin rfl (by decide +kernel) rfl rfl (Nat.le_of_ble_eq_true rfl) dX3_init_14 (fun H locs hP hD hS => ?_)
  have hP : va_P (dC, dI) vwCl [(h0, .inr (3, [.ref hm, .ref hn, .ref u_2, .int 0, .int 0, .ref hf, .int p0]))] H := hP
  have hD : va_D A [(h0, .inr (3, [.ref hm, .ref hn, .ref u_2, .int 0, .int 0, .ref hf, .int p0]))] := hD
  refine W.widen (k := 1) (n := 400) (by decide +kernel) (by decide +kernel) ?_
  have hP9 := hP.sub (ws' := [(h0, .inr (3, [.ref hm, .ref hn, .ref u_2, .int 0, .int 0, .ref hf, .int p0]))]) [0] rfl
  have hD9 := hD.sub (ws' := [(h0, .inr (3, [.ref hm, .ref hn, .ref u_2, .int 0, .int 0, .ref hf, .int p0]))]) [0] (by decide) rfl
  have hK9 := hK.sub (tys' := []) [] rfl
  exact W.vret hx hb hr (fun t ht hW => ⟨⟨u_2, rfl, trivial, by rw [ht]; exact hP9, va_K.moved hW.alike hK9, hD9⟩, hS.F ht⟩) hS.2.2 dX3_init_17
set_option maxHeartbeats 4000000 in
set_option maxRecDepth 100000 in
theorem c_X0_init (l : Launch) (dC : Nat → ClassId) (dI : Nat → Nat → Nat) (h0 : Nat) (hm : Nat) (p0 : Int32) (p1 : Int64) (p2 : Int64) (sz : Nat) : Met l yX0_init wsX0_init ({ frames := 20, cells := 2, slots := 800, locals := 600 }) (va_Pc [.ref h0, .ref hm, .null, .int p0, .long p1, .long p2] (fun U => U.heap.size = sz ∧ va_P (dC, dI) vwCl [(h0, .inr (0, [.null, .null, .null, .int 0, .int 0, .null, .int 0, .long 0, .long 0]))] U.heap ∧ va_K (dC, dI) vwCl [] U ∧ va_D (fun _ => True) [(h0, .inr (0, [.null, .null, .null, .int 0, .int 0, .null, .int 0, .long 0, .long 0]))])) (va_Qv (fun _ : Nat × Nat => True) (fun (u : Nat × Nat) (t : State) => va_P (dC, dI) vwCl [(h0, .inr (0, [.ref hm, .ref u.1, .ref u.2, .int 0, .int 0, .null, .int p0, .long p1, .long p2]))] t.heap ∧ va_K (dC, dI) vwCl [] t ∧ va_D (va_A [(h0, .inr (0, [.null, .null, .null, .int 0, .int 0, .null, .int 0, .long 0, .long 0]))] sz) [(h0, .inr (0, [.ref hm, .ref u.1, .ref u.2, .int 0, .int 0, .null, .int p0, .long p1, .long p2]))]) (va_A [(h0, .inr (0, [.null, .null, .null, .int 0, .int 0, .null, .int 0, .long 0, .long 0]))] sz)) 2 800 (va_A [(h0, .inr (0, [.null, .null, .null, .int 0, .int 0, .null, .int 0, .long 0, .long 0]))] sz) := by
  refine Met.ofW (cc := cX0_init) (maxL := 8) (ret := none) (by decide) rfl ?_
  intro p e s m args below meth c s₁ B hml hv
  obtain ⟨rfl, hsz, hP, hK, hD0⟩ := hv
  have hx := B.exec
  have hb := B.bytes
  have hr := B.returns
  have hts := atoms_spec (ws := wsX0_init) B.pre
  have hown : s.vm.findClass RX0 = some m.cls := findClass_of_methodNamed B.named
  have hlocks := B.notSynchronized
  have hin : meth.name = "<init>" := (name_of_methodNamed B.named B.method).1
  subst hsz
  have hD := hD0.self (sz := s.heap.size)
  generalize hAe : va_A [(h0, .inr (0, [.null, .null, .null, .int 0, .int 0, .null, .int 0, .long 0, .long 0]))] s.heap.size = A at hD ⊢
  have hA : ∀ q : Nat, s.heap.size ≤ q → A q := fun q h => by rw [← hAe]; exact Or.inr h
  generalize hH : s.heap = H at hP ⊢
  have hS : va_S A s.heap H [] := by rw [← hH]; exact va_S.rf
  have hl := lv_entry [.ref h0, .ref hm, .null, .int p0, .long p1, .long p2] (n := 8) (Nat.le_of_ble_eq_true rfl)
  rw [lg_entry_eq]
  generalize (lg_sl [.ref h0, .ref hm, .null, .int p0, .long p1, .long p2] ++ List.replicate (8 - (lg_sl [.ref h0, .ref hm, .null, .int p0, .long p1, .long p2]).length) Slot.unset).toArray = ls at hl ⊢
  have hl : lv_has ls 8 [(0, .ref h0), (1, .ref hm), (2, .null), (3, .int p0), (4, .long p1), (6, .long p2)] := hl
  have hP : va_P (dC, dI) vwCl [(h0, .inr (0, [.null, .null, .null, .int 0, .int 0, .null, .int 0, .long 0, .long 0]))] H := hP
  refine lv_aload_n hx hb dX0_init_0 rfl (lv_at hl 0 rfl) ?_
  refine lv_aload_n hx hb dX0_init_1 rfl (lv_at hl 1 rfl) ?_
  refine lv_sipush (v := 400) hx hb dX0_init_2 (by decide) ?_
  refine va_newa (atype := .long) (ty := .long) (N' := 400) (a0 := (400, .inr (.inl (fun _ => 0)))) hx hb (hts (.arrayClass .long) (by decide +kernel)) rfl hK hP hD hS hA (nd_along 400) (by decide +kernel) (by decide +kernel) (by decide +kernel) (by decide +kernel) (by decide +kernel) dX0_init_5 (fun q_1 cA_2 H hK hP hD hS => ?_)
  have hP : va_P (dC, dI) vwCl [(h0, .inr (0, [.null, .null, .null, .int 0, .int 0, .null, .int 0, .long 0, .long 0])), (q_1, .inl (cA_2, 400, .inr (.inl (fun _ => 0))))] H := hP
  have hD : va_D A [(h0, .inr (0, [.null, .null, .null, .int 0, .int 0, .null, .int 0, .long 0, .long 0])), (q_1, .inl (cA_2, 400, .inr (.inl (fun _ => 0))))] := hD
  have hK : va_K (dC, dI) vwCl [(cA_2, .long)] s := hK
  refine W.widen (k := 1) (n := 400) (by decide +kernel) (by decide +kernel) ?_
  have hPc := hP.sub (ws' := [(h0, .inr (0, [.null, .null, .null, .int 0, .int 0, .null, .int 0, .long 0, .long 0])), (q_1, .inl (cA_2, 400, .inr (.inl (fun _ => 0))))]) [0, 1] rfl
  have hDc := hD.sub (ws' := [(h0, .inr (0, [.null, .null, .null, .int 0, .int 0, .null, .int 0, .long 0, .long 0])), (q_1, .inl (cA_2, 400, .inr (.inl (fun _ => 0))))]) [0, 1] (by decide) rfl
  have hKc := hK.sub (tys' := [(cA_2, .long)]) [0] rfl
  have hFc := va_free (wc := [(h0, .inr (0, [.null, .null, .null, .int 0, .int 0, .null, .int 0, .long 0, .long 0])), (q_1, .inl (cA_2, 400, .inr (.inl (fun _ => 0))))]) hD hS hA [0, 1] rfl
  refine va_callv (va_runI (As := [.ref hm, .ref q_1]) (rest := []) ⟨hx, hb, hml, hown, hts⟩ (c_X5_init_C400 l dC dI h0 hm q_1 cA_2 (fun _ => 0) H.size) (cwI 2 hts gX0_init_X5_init rfl rfl rfl (hts (.initialized RX5) (by decide +kernel)) (hts (.methodLink RX0 3 yX5_init) (by decide +kernel)) (hts (.instanceMethod yX5_init) (by decide +kernel)) rfl (by decide +kernel) ⟨Nat.le_of_ble_eq_true rfl, Nat.le_of_ble_eq_true rfl⟩) ⟨fun a U g mk q => by obtain ⟨q0, q1, qP, qK, qD⟩ := q; exact ⟨q0, q1, qP, va_K.moved (u := U) (U := U.calling g mk a) (Vm.Alike.refl U.vm) qK, qD⟩, fun U hU hW => ⟨rfl, by rw [hU], by rw [hU]; exact hPc, va_K.moved hW.alike hKc, hDc.weaken (fun _ _ _ _ => trivial)⟩⟩ rfl rfl hl.1 rfl (lv_room (Nat.le_of_ble_eq_true rfl)) dX0_init_7 ⟨Nat.le_of_ble_eq_true rfl, Nat.le_of_ble_eq_true rfl⟩) hS (fun q _ h => hFc q h) hFc (fun u_4 t H1 locs ht hvm hw hB hz1 hk1 hS => ?_)
  obtain ⟨hP1, hK1, hD1⟩ := hB
  rw [ht] at hP1
  have hK1 := va_K.moved hvm.symm hK1
  have hK := hK.app hK1
  obtain ⟨hP, hD⟩ := va_join (wr := []) (w1 := [(h0, .inr (0, [.ref hm, .ref q_1, .ref u_4, .int 0, .int 0, .null, .int 0, .long 0, .long 0]))]) hP hD [0, 1] [] rfl rfl (by decide) (by decide) hk1 hFc hP1 hD1
  generalize H1 = H at hP hS ⊢
  have hP : va_P (dC, dI) vwCl [(h0, .inr (0, [.ref hm, .ref q_1, .ref u_4, .int 0, .int 0, .null, .int 0, .long 0, .long 0]))] H := hP
  have hD : va_D A [(h0, .inr (0, [.ref hm, .ref q_1, .ref u_4, .int 0, .int 0, .null, .int 0, .long 0, .long 0]))] := hD
  have hK : va_K (dC, dI) vwCl [(cA_2, .long)] s := hK
  refine W.widen (k := 2) (n := 800) (by decide +kernel) (by decide +kernel) ?_
  refine lv_aload_n hx hb dX0_init_10 rfl (lv_at hl 0 rfl) ?_
  refine lv_aload_nN hx hb dX0_init_11 rfl (lv_at hl 2 rfl) ?_
  refine va_putF (D := (dC, dI)) (ci := 0) (v := .null) (ty := (.object "NeededLists$LazyList")) (C := RX0) (T := TX0) (N := 9) hx hb hts (by decide +kernel) tyX0 tyX0_ok nmX0 hown hK hP hD hS 0 rfl rfl 5 (by decide) (hts (.fieldLink RX0 9 "NeededLists$Chained" "of" "LNeededLists$LazyList;") (by decide +kernel)) (fun _ h9 => h9) rfl hin rfl (by decide +kernel) rfl rfl (Nat.le_of_ble_eq_true rfl) dX0_init_12 (fun H locs hP hD hS => ?_)
  have hP : va_P (dC, dI) vwCl [(h0, .inr (0, [.ref hm, .ref q_1, .ref u_4, .int 0, .int 0, .null, .int 0, .long 0, .long 0]))] H := hP
  have hD : va_D A [(h0, .inr (0, [.ref hm, .ref q_1, .ref u_4, .int 0, .int 0, .null, .int 0, .long 0, .long 0]))] := hD
  refine lv_aload_n hx hb dX0_init_15 rfl (lv_at hl 0 rfl) ?_
  refine lv_iload_n hx hb dX0_init_16 rfl (lv_at hl 3 rfl) ?_
  refine va_putF (D := (dC, dI)) (ci := 0) (v := .int p0) (ty := .int) (C := RX0) (T := TX0) (N := 9) hx hb hts (by decide +kernel) tyX0 tyX0_ok nmX0 hown hK hP hD hS 0 rfl rfl 6 (by decide) (hts (.fieldLink RX0 15 "NeededLists$Chained" "op" "I") (by decide +kernel)) (fun _ h9 => h9) rfl hin rfl (by decide +kernel) rfl rfl (Nat.le_of_ble_eq_true rfl) dX0_init_17 (fun H locs hP hD hS => ?_)
  have hP : va_P (dC, dI) vwCl [(h0, .inr (0, [.ref hm, .ref q_1, .ref u_4, .int 0, .int 0, .null, .int p0, .long 0, .long 0]))] H := hP
  have hD : va_D A [(h0, .inr (0, [.ref hm, .ref q_1, .ref u_4, .int 0, .int 0, .null, .int p0, .long 0, .long 0]))] := hD
  refine lv_aload_n hx hb dX0_init_20 rfl (lv_at hl 0 rfl) ?_
  refine lv_lload hx hb dX0_init_21 (lv_at hl 4 rfl) ?_
  refine va_putF (D := (dC, dI)) (ci := 0) (v := .long p1) (ty := .long) (C := RX0) (T := TX0) (N := 9) hx hb hts (by decide +kernel) tyX0 tyX0_ok nmX0 hown hK hP hD hS 0 rfl rfl 7 (by decide) (hts (.fieldLink RX0 19 "NeededLists$Chained" "c" "J") (by decide +kernel)) (fun _ h9 => h9) rfl hin rfl (by decide +kernel) rfl rfl (Nat.le_of_ble_eq_true rfl) dX0_init_23 (fun H locs hP hD hS => ?_)
  have hP : va_P (dC, dI) vwCl [(h0, .inr (0, [.ref hm, .ref q_1, .ref u_4, .int 0, .int 0, .null, .int p0, .long p1, .long 0]))] H := hP
  have hD : va_D A [(h0, .inr (0, [.ref hm, .ref q_1, .ref u_4, .int 0, .int 0, .null, .int p0, .long p1, .long 0]))] := hD
  refine lv_aload_n hx hb dX0_init_26 rfl (lv_at hl 0 rfl) ?_
  refine lv_lload hx hb dX0_init_27 (lv_at hl 5 rfl) ?_
  refine va_putF (D := (dC, dI)) (ci := 0) (v := .long p2) (ty := .long) (C := RX0) (T := TX0) (N := 9) hx hb hts (by decide +kernel) tyX0 tyX0_ok nmX0 hown hK hP hD hS 0 rfl rfl 8 (by decide) (hts (.fieldLink RX0 23 "NeededLists$Chained" "start" "J") (by decide +kernel)) (fun _ h9 => h9) rfl hin rfl (by decide +kernel) rfl rfl (Nat.le_of_ble_eq_true rfl) dX0_init_29 (fun H locs hP hD hS => ?_)
  have hP : va_P (dC, dI) vwCl [(h0, .inr (0, [.ref hm, .ref q_1, .ref u_4, .int 0, .int 0, .null, .int p0, .long p1, .long p2]))] H := hP
  have hD : va_D A [(h0, .inr (0, [.ref hm, .ref q_1, .ref u_4, .int 0, .int 0, .null, .int p0, .long p1, .long p2]))] := hD
  refine W.widen (k := 2) (n := 800) (by decide +kernel) (by decide +kernel) ?_
  have hP9 := hP.sub (ws' := [(h0, .inr (0, [.ref hm, .ref q_1, .ref u_4, .int 0, .int 0, .null, .int p0, .long p1, .long p2]))]) [0] rfl
  have hD9 := hD.sub (ws' := [(h0, .inr (0, [.ref hm, .ref q_1, .ref u_4, .int 0, .int 0, .null, .int p0, .long p1, .long p2]))]) [0] (by decide) rfl
  have hK9 := hK.sub (tys' := []) [] rfl
  exact W.vret hx hb hr (fun t ht hW => ⟨⟨(q_1, u_4), rfl, trivial, by rw [ht]; exact hP9, va_K.moved hW.alike hK9, hD9⟩, hS.F ht⟩) hS.2.2 dX0_init_32
set_option maxHeartbeats 4000000 in
set_option maxRecDepth 100000 in
theorem c_X11_addList_G (l : Launch) (hl0 : l.stackTraces = false) (dC : Nat → ClassId) (dI : Nat → Nat → Nat) (h0 : Nat) (hm : Nat) (h1 : Nat) (h2 : Nat) (h3 : Nat) (c1 : ClassId) (f1 : Nat → Option Nat) (q : Nat) (fs : List Value) (sz : Nat) : Met l yX11_addList wsX11_addList ({ frames := 10, cells := 0, slots := 0, locals := 300 }) (va_Pc [.ref h0, .ref q] (fun U => U.heap.size = sz ∧ va_P (dC, dI) vwCl [(h0, .inr (10, xF hm h1 h2 h3 0 0 1000)), (h1, .inl (c1, 24, .inr (.inr (.inr (.inr (f1)))))), (q, .inr (3, fs))] U.heap ∧ va_K (dC, dI) vwCl [(c1, .object RX5)] U ∧ va_D (fun _ => True) [(h0, .inr (10, xF hm h1 h2 h3 0 0 1000)), (h1, .inl (c1, 24, .inr (.inr (.inr (.inr (f1)))))), (q, .inr (3, fs))] ∧ Gw U ∧ Gz (va_A [(h0, .inr (10, xF hm h1 h2 h3 0 0 1000)), (h1, .inl (c1, 24, .inr (.inr (.inr (.inr (f1)))))), (q, .inr (3, fs))] sz) U U.heap)) (va_Qi (fun (r : Int32) (_ : Unit) => r = 0) (fun _ _ => True) (va_A [(h0, .inr (10, xF hm h1 h2 h3 0 0 1000)), (h1, .inl (c1, 24, .inr (.inr (.inr (.inr (f1)))))), (q, .inr (3, fs))] sz)) 0 0 (va_A [(h0, .inr (10, xF hm h1 h2 h3 0 0 1000)), (h1, .inl (c1, 24, .inr (.inr (.inr (.inr (f1)))))), (q, .inr (3, fs))] sz) := by
  refine Met.ofW (cc := cX11_addList) (maxL := 3) (ret := (some .int)) (by decide) rfl ?_
  intro p e s m args below meth c s₁ B hml hv
  obtain ⟨rfl, hsz, hP, hK, hD0, hG, hZ⟩ := hv
  have hx := B.exec
  have hb := B.bytes
  have hr := B.returns
  have hts := atoms_spec (ws := wsX11_addList) B.pre
  have hown : s.vm.findClass RX11 = some m.cls := findClass_of_methodNamed B.named
  have hlocks := B.notSynchronized
  subst hsz
  have hD := hD0.self (sz := s.heap.size)
  generalize hAe : va_A [(h0, .inr (10, xF hm h1 h2 h3 0 0 1000)), (h1, .inl (c1, 24, .inr (.inr (.inr (.inr (f1)))))), (q, .inr (3, fs))] s.heap.size = A at hD hZ ⊢
  have hA : ∀ q : Nat, s.heap.size ≤ q → A q := fun q h => by rw [← hAe]; exact Or.inr h
  generalize hH : s.heap = H at hP ⊢
  have hS : va_S A s.heap H [] := by rw [← hH]; exact va_S.rf
  have hl := lv_entry [.ref h0, .ref q] (n := 3) (Nat.le_of_ble_eq_true rfl)
  rw [lg_entry_eq]
  generalize (lg_sl [.ref h0, .ref q] ++ List.replicate (3 - (lg_sl [.ref h0, .ref q]).length) Slot.unset).toArray = ls at hl ⊢
  have hl : lv_has ls 3 [(0, .ref h0), (1, .ref q)] := hl
  have hP : va_P (dC, dI) vwCl [(h0, .inr (10, xF hm h1 h2 h3 0 0 1000)), (h1, .inl (c1, 24, .inr (.inr (.inr (.inr (f1)))))), (q, .inr (3, fs))] H := hP
  refine lv_aload_n hx hb dX11_addList_0 rfl (lv_at hl 0 rfl) ?_
  refine va_get (D := (dC, dI)) (ci := 10) (v := .int 0) (C := RX11) (T := TX11) (N := 9) hx hb hts (by decide +kernel) hown hK hP 0 rfl rfl 4 (by decide) (hts (.fieldLink RX11 136 "NeededLists" "madeCount" "I") (by decide +kernel)) (fun _ h9 => h9) rfl dX11_addList_1 ?_
  refine lv_istore_n (lv' := [(2, .int 0), (0, .ref h0), (1, .ref q)]) hx hb dX11_addList_4 rfl hl (by decide) rfl (fun ls hl => ?_)
  refine lv_iload_n hx hb dX11_addList_5 rfl (lv_at hl 0 rfl) ?_
  refine lv_aload_n hx hb dX11_addList_6 rfl (lv_at hl 1 rfl) ?_
  refine va_get (D := (dC, dI)) (ci := 10) (v := .ref h1) (C := RX11) (T := TX11) (N := 9) hx hb hts (by decide +kernel) hown hK hP 0 rfl rfl 1 (by decide) (hts (.fieldLink RX11 18 "NeededLists" "made" "[LNeededLists$LazyList;") (by decide +kernel)) (fun _ h9 => h9) rfl dX11_addList_7 ?_
  refine va_alen (v := 24) hx hb hK hP 1 0 rfl rfl rfl dX11_addList_10 ?_
  refine lv_icmp_ge (tgt := 28) hx hb dX11_addList_11 (by decide) (fun c_11 => ?_) (fun c_11 => ?_)
  · exact absurd c_11 (by decide)
  · refine lv_aload_n hx hb dX11_addList_14 rfl (lv_at hl 1 rfl) ?_
    refine va_get (D := (dC, dI)) (ci := 10) (v := .ref h1) (C := RX11) (T := TX11) (N := 9) hx hb hts (by decide +kernel) hown hK hP 0 rfl rfl 1 (by decide) (hts (.fieldLink RX11 18 "NeededLists" "made" "[LNeededLists$LazyList;") (by decide +kernel)) (fun _ h9 => h9) rfl dX11_addList_15 ?_
    refine lv_iload_n hx hb dX11_addList_18 rfl (lv_at hl 0 rfl) ?_
    refine lv_aload_n hx hb dX11_addList_19 rfl (lv_at hl 2 rfl) ?_
    refine va_astqO (E := RX5) hx hb hK hP hD hS 1 0 2 3 rfl rfl hG.cGiven rfl rfl (nd_in (i := 0) (n := 24) (by decide)) dX11_addList_20 (fun H locs hP hD hS => ?_)
    have hP : va_P (dC, dI) vwCl [(h0, .inr (10, xF hm h1 h2 h3 0 0 1000)), (h1, .inl (c1, 24, .inr (.inr (.inr (.inr (va_up f1 (0 : Int32).toNatClampNeg (some q))))))), (q, .inr (3, fs))] H := hP
    have hD : va_D A [(h0, .inr (10, xF hm h1 h2 h3 0 0 1000)), (h1, .inl (c1, 24, .inr (.inr (.inr (.inr (va_up f1 (0 : Int32).toNatClampNeg (some q))))))), (q, .inr (3, fs))] := hD
    refine lv_aload_n hx hb dX11_addList_21 rfl (lv_at hl 1 rfl) ?_
    refine lv_iload_n hx hb dX11_addList_22 rfl (lv_at hl 0 rfl) ?_
    refine lv_iconst (v := 1) hx hb dX11_addList_23 (by decide) ?_
    refine lv_iadd hx hb dX11_addList_24 ?_
    refine lv_topi (fun z_1 ez_1 => ?_)
    obtain rfl : z_1 = 1 := ez_1.trans (by decide)
    refine va_put (D := (dC, dI)) (ci := 10) (v := .int 1) (ty := .int) (C := RX11) (T := TX11) (N := 9) hx hb hts (by decide +kernel) tyX11 tyX11_ok nmX11 hown hK hP hD hS 0 rfl rfl 4 (by decide) (hts (.fieldLink RX11 136 "NeededLists" "madeCount" "I") (by decide +kernel)) (fun _ h9 => h9) rfl (by decide +kernel) rfl rfl (Nat.le_of_ble_eq_true rfl) dX11_addList_25 (fun H locs hP hD hS => ?_)
    have hP : va_P (dC, dI) vwCl [(h0, .inr (10, xF hm h1 h2 h3 1 0 1000)), (h1, .inl (c1, 24, .inr (.inr (.inr (.inr (va_up f1 (0 : Int32).toNatClampNeg (some q))))))), (q, .inr (3, fs))] H := hP
    have hD : va_D A [(h0, .inr (10, xF hm h1 h2 h3 1 0 1000)), (h1, .inl (c1, 24, .inr (.inr (.inr (.inr (va_up f1 (0 : Int32).toNatClampNeg (some q))))))), (q, .inr (3, fs))] := hD
    refine lv_iload_n hx hb dX11_addList_28 rfl (lv_at hl 0 rfl) ?_
    refine W.widen (k := 0) (n := 0) (by decide +kernel) (by decide +kernel) ?_
    exact W.iret (v := 0) hx hb hr (fun t ht hW => ⟨⟨0, (), rfl, rfl, trivial⟩, hS.F ht⟩) hS.2.2 dX11_addList_29
set_option maxHeartbeats 4000000 in
set_option maxRecDepth 100000 in
theorem c_X11_addList_C (l : Launch) (hl0 : l.stackTraces = false) (dC : Nat → ClassId) (dI : Nat → Nat → Nat) (h0 : Nat) (hm : Nat) (h1 : Nat) (h2 : Nat) (h3 : Nat) (c1 : ClassId) (f1 : Nat → Option Nat) (q : Nat) (fs : List Value) (sz : Nat) : Met l yX11_addList wsX11_addList ({ frames := 10, cells := 0, slots := 0, locals := 300 }) (va_Pc [.ref h0, .ref q] (fun U => U.heap.size = sz ∧ va_P (dC, dI) vwCl [(h0, .inr (10, xF hm h1 h2 h3 0 0 1000)), (h1, .inl (c1, 24, .inr (.inr (.inr (.inr (f1)))))), (q, .inr (0, fs))] U.heap ∧ va_K (dC, dI) vwCl [(c1, .object RX5)] U ∧ va_D (fun _ => True) [(h0, .inr (10, xF hm h1 h2 h3 0 0 1000)), (h1, .inl (c1, 24, .inr (.inr (.inr (.inr (f1)))))), (q, .inr (0, fs))] ∧ Gw U ∧ Gz (va_A [(h0, .inr (10, xF hm h1 h2 h3 0 0 1000)), (h1, .inl (c1, 24, .inr (.inr (.inr (.inr (f1)))))), (q, .inr (0, fs))] sz) U U.heap)) (va_Qi (fun (r : Int32) (_ : Unit) => r = 0) (fun _ _ => True) (va_A [(h0, .inr (10, xF hm h1 h2 h3 0 0 1000)), (h1, .inl (c1, 24, .inr (.inr (.inr (.inr (f1)))))), (q, .inr (0, fs))] sz)) 0 0 (va_A [(h0, .inr (10, xF hm h1 h2 h3 0 0 1000)), (h1, .inl (c1, 24, .inr (.inr (.inr (.inr (f1)))))), (q, .inr (0, fs))] sz) := by
  refine Met.ofW (cc := cX11_addList) (maxL := 3) (ret := (some .int)) (by decide) rfl ?_
  intro p e s m args below meth c s₁ B hml hv
  obtain ⟨rfl, hsz, hP, hK, hD0, hG, hZ⟩ := hv
  have hx := B.exec
  have hb := B.bytes
  have hr := B.returns
  have hts := atoms_spec (ws := wsX11_addList) B.pre
  have hown : s.vm.findClass RX11 = some m.cls := findClass_of_methodNamed B.named
  have hlocks := B.notSynchronized
  subst hsz
  have hD := hD0.self (sz := s.heap.size)
  generalize hAe : va_A [(h0, .inr (10, xF hm h1 h2 h3 0 0 1000)), (h1, .inl (c1, 24, .inr (.inr (.inr (.inr (f1)))))), (q, .inr (0, fs))] s.heap.size = A at hD hZ ⊢
  have hA : ∀ q : Nat, s.heap.size ≤ q → A q := fun q h => by rw [← hAe]; exact Or.inr h
  generalize hH : s.heap = H at hP ⊢
  have hS : va_S A s.heap H [] := by rw [← hH]; exact va_S.rf
  have hl := lv_entry [.ref h0, .ref q] (n := 3) (Nat.le_of_ble_eq_true rfl)
  rw [lg_entry_eq]
  generalize (lg_sl [.ref h0, .ref q] ++ List.replicate (3 - (lg_sl [.ref h0, .ref q]).length) Slot.unset).toArray = ls at hl ⊢
  have hl : lv_has ls 3 [(0, .ref h0), (1, .ref q)] := hl
  have hP : va_P (dC, dI) vwCl [(h0, .inr (10, xF hm h1 h2 h3 0 0 1000)), (h1, .inl (c1, 24, .inr (.inr (.inr (.inr (f1)))))), (q, .inr (0, fs))] H := hP
  refine lv_aload_n hx hb dX11_addList_0 rfl (lv_at hl 0 rfl) ?_
  refine va_get (D := (dC, dI)) (ci := 10) (v := .int 0) (C := RX11) (T := TX11) (N := 9) hx hb hts (by decide +kernel) hown hK hP 0 rfl rfl 4 (by decide) (hts (.fieldLink RX11 136 "NeededLists" "madeCount" "I") (by decide +kernel)) (fun _ h9 => h9) rfl dX11_addList_1 ?_
  refine lv_istore_n (lv' := [(2, .int 0), (0, .ref h0), (1, .ref q)]) hx hb dX11_addList_4 rfl hl (by decide) rfl (fun ls hl => ?_)
  refine lv_iload_n hx hb dX11_addList_5 rfl (lv_at hl 0 rfl) ?_
  refine lv_aload_n hx hb dX11_addList_6 rfl (lv_at hl 1 rfl) ?_
  refine va_get (D := (dC, dI)) (ci := 10) (v := .ref h1) (C := RX11) (T := TX11) (N := 9) hx hb hts (by decide +kernel) hown hK hP 0 rfl rfl 1 (by decide) (hts (.fieldLink RX11 18 "NeededLists" "made" "[LNeededLists$LazyList;") (by decide +kernel)) (fun _ h9 => h9) rfl dX11_addList_7 ?_
  refine va_alen (v := 24) hx hb hK hP 1 0 rfl rfl rfl dX11_addList_10 ?_
  refine lv_icmp_ge (tgt := 28) hx hb dX11_addList_11 (by decide) (fun c_11 => ?_) (fun c_11 => ?_)
  · exact absurd c_11 (by decide)
  · refine lv_aload_n hx hb dX11_addList_14 rfl (lv_at hl 1 rfl) ?_
    refine va_get (D := (dC, dI)) (ci := 10) (v := .ref h1) (C := RX11) (T := TX11) (N := 9) hx hb hts (by decide +kernel) hown hK hP 0 rfl rfl 1 (by decide) (hts (.fieldLink RX11 18 "NeededLists" "made" "[LNeededLists$LazyList;") (by decide +kernel)) (fun _ h9 => h9) rfl dX11_addList_15 ?_
    refine lv_iload_n hx hb dX11_addList_18 rfl (lv_at hl 0 rfl) ?_
    refine lv_aload_n hx hb dX11_addList_19 rfl (lv_at hl 2 rfl) ?_
    refine va_astqO (E := RX5) hx hb hK hP hD hS 1 0 2 0 rfl rfl hG.cChained rfl rfl (nd_in (i := 0) (n := 24) (by decide)) dX11_addList_20 (fun H locs hP hD hS => ?_)
    have hP : va_P (dC, dI) vwCl [(h0, .inr (10, xF hm h1 h2 h3 0 0 1000)), (h1, .inl (c1, 24, .inr (.inr (.inr (.inr (va_up f1 (0 : Int32).toNatClampNeg (some q))))))), (q, .inr (0, fs))] H := hP
    have hD : va_D A [(h0, .inr (10, xF hm h1 h2 h3 0 0 1000)), (h1, .inl (c1, 24, .inr (.inr (.inr (.inr (va_up f1 (0 : Int32).toNatClampNeg (some q))))))), (q, .inr (0, fs))] := hD
    refine lv_aload_n hx hb dX11_addList_21 rfl (lv_at hl 1 rfl) ?_
    refine lv_iload_n hx hb dX11_addList_22 rfl (lv_at hl 0 rfl) ?_
    refine lv_iconst (v := 1) hx hb dX11_addList_23 (by decide) ?_
    refine lv_iadd hx hb dX11_addList_24 ?_
    refine lv_topi (fun z_1 ez_1 => ?_)
    obtain rfl : z_1 = 1 := ez_1.trans (by decide)
    refine va_put (D := (dC, dI)) (ci := 10) (v := .int 1) (ty := .int) (C := RX11) (T := TX11) (N := 9) hx hb hts (by decide +kernel) tyX11 tyX11_ok nmX11 hown hK hP hD hS 0 rfl rfl 4 (by decide) (hts (.fieldLink RX11 136 "NeededLists" "madeCount" "I") (by decide +kernel)) (fun _ h9 => h9) rfl (by decide +kernel) rfl rfl (Nat.le_of_ble_eq_true rfl) dX11_addList_25 (fun H locs hP hD hS => ?_)
    have hP : va_P (dC, dI) vwCl [(h0, .inr (10, xF hm h1 h2 h3 1 0 1000)), (h1, .inl (c1, 24, .inr (.inr (.inr (.inr (va_up f1 (0 : Int32).toNatClampNeg (some q))))))), (q, .inr (0, fs))] H := hP
    have hD : va_D A [(h0, .inr (10, xF hm h1 h2 h3 1 0 1000)), (h1, .inl (c1, 24, .inr (.inr (.inr (.inr (va_up f1 (0 : Int32).toNatClampNeg (some q))))))), (q, .inr (0, fs))] := hD
    refine lv_iload_n hx hb dX11_addList_28 rfl (lv_at hl 0 rfl) ?_
    refine W.widen (k := 0) (n := 0) (by decide +kernel) (by decide +kernel) ?_
    exact W.iret (v := 0) hx hb hr (fun t ht hW => ⟨⟨0, (), rfl, rfl, trivial⟩, hS.F ht⟩) hS.2.2 dX11_addList_29
set_option maxHeartbeats 4000000 in
set_option maxRecDepth 100000 in
theorem c_X11_given (l : Launch) (hl0 : l.stackTraces = false) (dC : Nat → ClassId) (dI : Nat → Nat → Nat) (h0 : Nat) (hm : Nat) (h1 : Nat) (h2 : Nat) (h3 : Nat) (c1 : ClassId) (f1 : Nat → Option Nat) (c2 : ClassId) (f2 : Nat → Int64) (c3 : ClassId) (f3 : Nat → Int32) (p0 : Int32) (sz : Nat) : Met l yX11_given wsX11_given ({ frames := 30, cells := 4, slots := 7, locals := 900 }) (va_Pc [.ref h0, .int p0] (fun U => U.heap.size = sz ∧ va_P (dC, dI) vwCl [(h0, .inr (10, xF hm h1 h2 h3 0 0 1000)), (h1, .inl (c1, 24, .inr (.inr (.inr (.inr (f1)))))), (h2, .inl (c2, 100, .inr (.inl (f2)))), (h3, .inl (c3, 100, .inl (f3)))] U.heap ∧ va_K (dC, dI) vwCl [(c1, .object RX5), (c2, .long), (c3, .byte)] U ∧ va_D (fun _ => True) [(h0, .inr (10, xF hm h1 h2 h3 0 0 1000)), (h1, .inl (c1, 24, .inr (.inr (.inr (.inr (f1)))))), (h2, .inl (c2, 100, .inr (.inl (f2)))), (h3, .inl (c3, 100, .inl (f3)))] ∧ Gw U ∧ Gz (va_A [(h0, .inr (10, xF hm h1 h2 h3 0 0 1000)), (h1, .inl (c1, 24, .inr (.inr (.inr (.inr (f1)))))), (h2, .inl (c2, 100, .inr (.inl (f2)))), (h3, .inl (c3, 100, .inl (f3)))] sz) U U.heap)) (va_Qi (fun (r : Int32) (_ : Unit) => r = 0) (fun _ _ => True) (va_A [(h0, .inr (10, xF hm h1 h2 h3 0 0 1000)), (h1, .inl (c1, 24, .inr (.inr (.inr (.inr (f1)))))), (h2, .inl (c2, 100, .inr (.inl (f2)))), (h3, .inl (c3, 100, .inl (f3)))] sz)) 4 7 (va_A [(h0, .inr (10, xF hm h1 h2 h3 0 0 1000)), (h1, .inl (c1, 24, .inr (.inr (.inr (.inr (f1)))))), (h2, .inl (c2, 100, .inr (.inl (f2)))), (h3, .inl (c3, 100, .inl (f3)))] sz) := by
  refine Met.ofW (cc := cX11_given) (maxL := 4) (ret := (some .int)) (by decide) rfl ?_
  intro p e s m args below meth c s₁ B hml hv
  obtain ⟨rfl, hsz, hP, hK, hD0, hG, hZ⟩ := hv
  have hx := B.exec
  have hb := B.bytes
  have hr := B.returns
  have hts := atoms_spec (ws := wsX11_given) B.pre
  have hown : s.vm.findClass RX11 = some m.cls := findClass_of_methodNamed B.named
  have hlocks := B.notSynchronized
  subst hsz
  have hD := hD0.self (sz := s.heap.size)
  generalize hAe : va_A [(h0, .inr (10, xF hm h1 h2 h3 0 0 1000)), (h1, .inl (c1, 24, .inr (.inr (.inr (.inr (f1)))))), (h2, .inl (c2, 100, .inr (.inl (f2)))), (h3, .inl (c3, 100, .inl (f3)))] s.heap.size = A at hD hZ ⊢
  have hA : ∀ q : Nat, s.heap.size ≤ q → A q := fun q h => by rw [← hAe]; exact Or.inr h
  generalize hH : s.heap = H at hP ⊢
  have hS : va_S A s.heap H [] := by rw [← hH]; exact va_S.rf
  have hl := lv_entry [.ref h0, .int p0] (n := 4) (Nat.le_of_ble_eq_true rfl)
  rw [lg_entry_eq]
  generalize (lg_sl [.ref h0, .int p0] ++ List.replicate (4 - (lg_sl [.ref h0, .int p0]).length) Slot.unset).toArray = ls at hl ⊢
  have hl : lv_has ls 4 [(0, .ref h0), (1, .int p0)] := hl
  have hP : va_P (dC, dI) vwCl [(h0, .inr (10, xF hm h1 h2 h3 0 0 1000)), (h1, .inl (c1, 24, .inr (.inr (.inr (.inr (f1)))))), (h2, .inl (c2, 100, .inr (.inl (f2)))), (h3, .inl (c3, 100, .inl (f3)))] H := hP
  refine lv_aload_n hx hb dX11_given_0 rfl (lv_at hl 0 rfl) ?_
  have hPc := hP.sub (ws' := [(h0, .inr (10, xF hm h1 h2 h3 0 0 1000))]) [0] rfl
  have hDc : va_D (fun _ => True) ([] : va_W) := nd_0
  have hKc := hK.sub (tys' := []) [] rfl
  have hFc := va_free (wc := []) hD hS hA [] rfl
  refine va_callv (va_runV (As := []) (rest := []) ⟨hx, hb, hml, hown, hts⟩ (c_X11_checkRoom l dC dI h0 hm h1 h2 h3 H.size) (cwV 0 hts gX11_given_X11_checkRoom rfl rfl rfl (by decide +kernel) ⟨Nat.le_of_ble_eq_true rfl, Nat.le_of_ble_eq_true rfl⟩) ⟨fun a U g mk q => by obtain ⟨q0, q1, qP, qK, qD⟩ := q; exact ⟨q0, q1, qP, va_K.moved (u := U) (U := U.calling g mk a) (Vm.Alike.refl U.vm) qK, qD⟩, va_recv hKc hPc (ci := 10) (q0 := 0) rfl rfl, fun U hU hW => ⟨rfl, by rw [hU], by rw [hU]; exact hPc, va_K.moved hW.alike hKc, nd_0⟩⟩ rfl rfl hl.1 rfl (lv_room (Nat.le_of_ble_eq_true rfl)) dX11_given_1 ⟨Nat.le_of_ble_eq_true rfl, Nat.le_of_ble_eq_true rfl⟩) hS (fun q _ h => hFc q h) hFc (fun u_2 t H1 locs ht hvm hw hB hz1 hk1 hS => ?_)
  have hP := nd_keep hP hk1
  generalize H1 = H at hP hS ⊢
  have hP : va_P (dC, dI) vwCl [(h0, .inr (10, xF hm h1 h2 h3 0 0 1000)), (h1, .inl (c1, 24, .inr (.inr (.inr (.inr (f1)))))), (h2, .inl (c2, 100, .inr (.inl (f2)))), (h3, .inl (c3, 100, .inl (f3)))] H := hP
  have hD : va_D A [(h0, .inr (10, xF hm h1 h2 h3 0 0 1000)), (h1, .inl (c1, 24, .inr (.inr (.inr (.inr (f1)))))), (h2, .inl (c2, 100, .inr (.inl (f2)))), (h3, .inl (c3, 100, .inl (f3)))] := hD
  refine W.widen (k := 0) (n := 0) (by decide +kernel) (by decide +kernel) ?_
  refine lv_aload_n hx hb dX11_given_4 rfl (lv_at hl 0 rfl) ?_
  refine va_get (D := (dC, dI)) (ci := 10) (v := .ref h2) (C := RX11) (T := TX11) (N := 9) hx hb hts (by decide +kernel) hown hK hP 0 rfl rfl 2 (by decide) (hts (.fieldLink RX11 22 "NeededLists" "rowNumbers" "[J") (by decide +kernel)) (fun _ h9 => h9) rfl dX11_given_5 ?_
  refine lv_aload_n hx hb dX11_given_8 rfl (lv_at hl 0 rfl) ?_
  refine va_get (D := (dC, dI)) (ci := 10) (v := .int 0) (C := RX11) (T := TX11) (N := 9) hx hb hts (by decide +kernel) hown hK hP 0 rfl rfl 5 (by decide) (hts (.fieldLink RX11 45 "NeededLists" "rowLength" "I") (by decide +kernel)) (fun _ h9 => h9) rfl dX11_given_9 ?_
  have hPc := hP.sub (ws' := [(h2, .inl (c2, 100, .inr (.inl (f2))))]) [2] rfl
  have hDc := hD.sub (ws' := [(h2, .inl (c2, 100, .inr (.inl (f2))))]) [2] (by decide) rfl
  have hKc := hK.sub (tys' := [(c2, .long)]) [1] rfl
  have hFc := va_free (wc := [(h2, .inl (c2, 100, .inr (.inl (f2))))]) hD hS hA [2] rfl
  refine va_callr (va_runS (As := [.ref h2, .int 0]) (rest := []) ⟨hx, hb, hml, hown, hts⟩ (c_J7_copyOf_c38d5 l dC dI h2 c2 f2 H.size) (va_cwS 2 hts gX11_given_J7_copyOf_c38d5 rfl rfl rfl (by decide +kernel) ⟨Nat.le_of_ble_eq_true rfl, Nat.le_of_ble_eq_true rfl⟩) ⟨fun a U g mk q => by obtain ⟨q0, q1, qP, qK, qD⟩ := q; exact ⟨q0, q1, qP, va_K.moved (u := U) (U := U.calling g mk a) (Vm.Alike.refl U.vm) qK, qD⟩, fun U hU hW => ⟨rfl, by rw [hU], by rw [hU]; exact hPc, va_K.moved hW.alike hKc, hDc.weaken (fun _ _ _ _ => trivial)⟩⟩ rfl rfl hl.1 rfl (lv_room (Nat.le_of_ble_eq_true rfl)) dX11_given_12 ⟨Nat.le_of_ble_eq_true rfl, Nat.le_of_ble_eq_true rfl⟩) hS (fun q _ h => hFc q h) hFc (fun u_4 r_3 t H1 locs ht hvm hw hB hz1 hk1 hS => ?_)
  obtain ⟨hP1, hK1, hD1⟩ := hB
  rw [ht] at hP1
  have hK1 := va_K.moved hvm.symm hK1
  have hK := hK.app hK1
  obtain ⟨hP, hD⟩ := va_join (wr := [(h0, .inr (10, xF hm h1 h2 h3 0 0 1000)), (h1, .inl (c1, 24, .inr (.inr (.inr (.inr (f1)))))), (h3, .inl (c3, 100, .inl (f3)))]) (w1 := [(r_3, .inl (u_4.1, 0, .inr (.inl (u_4.2))))]) hP hD [2] [0, 1, 3] rfl rfl (by decide) (by decide) hk1 hFc hP1 hD1
  generalize H1 = H at hP hS ⊢
  have hP : va_P (dC, dI) vwCl [(h0, .inr (10, xF hm h1 h2 h3 0 0 1000)), (h1, .inl (c1, 24, .inr (.inr (.inr (.inr (f1)))))), (h3, .inl (c3, 100, .inl (f3))), (r_3, .inl (u_4.1, 0, .inr (.inl (u_4.2))))] H := hP
  have hD : va_D A [(h0, .inr (10, xF hm h1 h2 h3 0 0 1000)), (h1, .inl (c1, 24, .inr (.inr (.inr (.inr (f1)))))), (h3, .inl (c3, 100, .inl (f3))), (r_3, .inl (u_4.1, 0, .inr (.inl (u_4.2))))] := hD
  have hK : va_K (dC, dI) vwCl [(c1, .object RX5), (c2, .long), (c3, .byte), (u_4.1, .long)] s := hK
  refine W.widen (k := 1) (n := 0) (by decide +kernel) (by decide +kernel) ?_
  refine lv_astore_n (lv' := [(2, .ref r_3), (0, .ref h0), (1, .int p0)]) hx hb dX11_given_15 rfl hl (by decide) rfl (fun ls hl => ?_)
  refine lv_aload_n hx hb dX11_given_16 rfl (lv_at hl 1 rfl) ?_
  refine va_get (D := (dC, dI)) (ci := 10) (v := .ref h3) (C := RX11) (T := TX11) (N := 9) hx hb hts (by decide +kernel) hown hK hP 0 rfl rfl 3 (by decide) (hts (.fieldLink RX11 26 "NeededLists" "rowFates" "[B") (by decide +kernel)) (fun _ h9 => h9) rfl dX11_given_17 ?_
  refine lv_aload_n hx hb dX11_given_20 rfl (lv_at hl 1 rfl) ?_
  refine va_get (D := (dC, dI)) (ci := 10) (v := .int 0) (C := RX11) (T := TX11) (N := 9) hx hb hts (by decide +kernel) hown hK hP 0 rfl rfl 5 (by decide) (hts (.fieldLink RX11 45 "NeededLists" "rowLength" "I") (by decide +kernel)) (fun _ h9 => h9) rfl dX11_given_21 ?_
  have hPc := hP.sub (ws' := [(h3, .inl (c3, 100, .inl (f3)))]) [2] rfl
  have hDc := hD.sub (ws' := [(h3, .inl (c3, 100, .inl (f3)))]) [2] (by decide) rfl
  have hKc := hK.sub (tys' := [(c3, .byte)]) [2] rfl
  have hFc := va_free (wc := [(h3, .inl (c3, 100, .inl (f3)))]) hD hS hA [2] rfl
  refine va_callr (va_runS (As := [.ref h3, .int 0]) (rest := []) ⟨hx, hb, hml, hown, hts⟩ (c_J7_copyOf_9075b l dC dI h3 c3 f3 H.size) (va_cwS 2 hts gX11_given_J7_copyOf_9075b rfl rfl rfl (by decide +kernel) ⟨Nat.le_of_ble_eq_true rfl, Nat.le_of_ble_eq_true rfl⟩) ⟨fun a U g mk q => by obtain ⟨q0, q1, qP, qK, qD⟩ := q; exact ⟨q0, q1, qP, va_K.moved (u := U) (U := U.calling g mk a) (Vm.Alike.refl U.vm) qK, qD⟩, fun U hU hW => ⟨rfl, by rw [hU], by rw [hU]; exact hPc, va_K.moved hW.alike hKc, hDc.weaken (fun _ _ _ _ => trivial)⟩⟩ rfl rfl hl.1 rfl (lv_room (Nat.le_of_ble_eq_true rfl)) dX11_given_24 ⟨Nat.le_of_ble_eq_true rfl, Nat.le_of_ble_eq_true rfl⟩) hS (fun q _ h => hFc q h) hFc (fun u_6 r_5 t H1 locs ht hvm hw hB hz1 hk1 hS => ?_)
  obtain ⟨hP1, hK1, hD1⟩ := hB
  rw [ht] at hP1
  have hK1 := va_K.moved hvm.symm hK1
  have hK := hK.app hK1
  obtain ⟨hP, hD⟩ := va_join (wr := [(h0, .inr (10, xF hm h1 h2 h3 0 0 1000)), (h1, .inl (c1, 24, .inr (.inr (.inr (.inr (f1)))))), (r_3, .inl (u_4.1, 0, .inr (.inl (u_4.2))))]) (w1 := [(r_5, .inl (u_6.1, 0, .inl (u_6.2)))]) hP hD [2] [0, 1, 3] rfl rfl (by decide) (by decide) hk1 hFc hP1 hD1
  generalize H1 = H at hP hS ⊢
  have hP : va_P (dC, dI) vwCl [(h0, .inr (10, xF hm h1 h2 h3 0 0 1000)), (h1, .inl (c1, 24, .inr (.inr (.inr (.inr (f1)))))), (r_3, .inl (u_4.1, 0, .inr (.inl (u_4.2)))), (r_5, .inl (u_6.1, 0, .inl (u_6.2)))] H := hP
  have hD : va_D A [(h0, .inr (10, xF hm h1 h2 h3 0 0 1000)), (h1, .inl (c1, 24, .inr (.inr (.inr (.inr (f1)))))), (r_3, .inl (u_4.1, 0, .inr (.inl (u_4.2)))), (r_5, .inl (u_6.1, 0, .inl (u_6.2)))] := hD
  have hK : va_K (dC, dI) vwCl [(c1, .object RX5), (c2, .long), (c3, .byte), (u_4.1, .long), (u_6.1, .byte)] s := hK
  refine W.widen (k := 2) (n := 0) (by decide +kernel) (by decide +kernel) ?_
  refine lv_astore_n (lv' := [(3, .ref r_5), (2, .ref r_3), (0, .ref h0), (1, .int p0)]) hx hb dX11_given_27 rfl hl (by decide) rfl (fun ls hl => ?_)
  refine lv_aload_n hx hb dX11_given_28 rfl (lv_at hl 2 rfl) ?_
  refine lv_iconst (v := 0) hx hb dX11_given_29 (by decide) ?_
  refine va_put (D := (dC, dI)) (ci := 10) (v := .int 0) (ty := .int) (C := RX11) (T := TX11) (N := 9) hx hb hts (by decide +kernel) tyX11 tyX11_ok nmX11 hown hK hP hD hS 0 rfl rfl 5 (by decide) (hts (.fieldLink RX11 45 "NeededLists" "rowLength" "I") (by decide +kernel)) (fun _ h9 => h9) rfl (by decide +kernel) rfl rfl (Nat.le_of_ble_eq_true rfl) dX11_given_30 (fun H locs hP hD hS => ?_)
  have hP : va_P (dC, dI) vwCl [(h0, .inr (10, xF hm h1 h2 h3 0 0 1000)), (h1, .inl (c1, 24, .inr (.inr (.inr (.inr (f1)))))), (r_3, .inl (u_4.1, 0, .inr (.inl (u_4.2)))), (r_5, .inl (u_6.1, 0, .inl (u_6.2)))] H := hP
  have hD : va_D A [(h0, .inr (10, xF hm h1 h2 h3 0 0 1000)), (h1, .inl (c1, 24, .inr (.inr (.inr (.inr (f1)))))), (r_3, .inl (u_4.1, 0, .inr (.inl (u_4.2)))), (r_5, .inl (u_6.1, 0, .inl (u_6.2)))] := hD
  refine lv_aload_n hx hb dX11_given_33 rfl (lv_at hl 2 rfl) ?_
  refine va_new (ci := 3) (fs := [.null, .null, .null, .int 0, .int 0, .null, .int 0]) (C := RX3) (T := TX3) (N := 7) hx hb hts (by decide +kernel) tyX3 tyX3_ok hown (hts (.classLink RX11 65 RX3) (by decide +kernel)) (hts (.instantiable RX3 7) (by decide +kernel)) (hts (.initialized RX3) (by decide +kernel)) hK hP hD hS hA rfl (fun j hj => by rcases (show j = 0 ∨ j = 1 ∨ j = 2 ∨ j = 3 ∨ j = 4 ∨ j = 5 ∨ j = 6 by omega) with rfl | rfl | rfl | rfl | rfl | rfl | rfl <;> rfl) (by decide +kernel) (by decide +kernel) dX11_given_34 (fun q_7 H hP hD hS => ?_)
  have hP : va_P (dC, dI) vwCl [(h0, .inr (10, xF hm h1 h2 h3 0 0 1000)), (h1, .inl (c1, 24, .inr (.inr (.inr (.inr (f1)))))), (r_3, .inl (u_4.1, 0, .inr (.inl (u_4.2)))), (r_5, .inl (u_6.1, 0, .inl (u_6.2))), (q_7, .inr (3, [.null, .null, .null, .int 0, .int 0, .null, .int 0]))] H := hP
  have hD : va_D A [(h0, .inr (10, xF hm h1 h2 h3 0 0 1000)), (h1, .inl (c1, 24, .inr (.inr (.inr (.inr (f1)))))), (r_3, .inl (u_4.1, 0, .inr (.inl (u_4.2)))), (r_5, .inl (u_6.1, 0, .inl (u_6.2))), (q_7, .inr (3, [.null, .null, .null, .int 0, .int 0, .null, .int 0]))] := hD
  refine W.widen (k := 3) (n := 7) (by decide +kernel) (by decide +kernel) ?_
  refine lv_dup hx hb dX11_given_37 rfl ?_
  refine lv_aload_n hx hb dX11_given_38 rfl (lv_at hl 2 rfl) ?_
  refine va_get (D := (dC, dI)) (ci := 10) (v := .ref hm) (C := RX11) (T := TX11) (N := 9) hx hb hts (by decide +kernel) hown hK hP 0 rfl rfl 0 (by decide) (hts (.fieldLink RX11 12 "NeededLists" "meter" "LNeededLists$Meter;") (by decide +kernel)) (fun _ h9 => h9) rfl dX11_given_39 ?_
  refine lv_aload_n hx hb dX11_given_42 rfl (lv_at hl 1 rfl) ?_
  refine lv_aload_n hx hb dX11_given_43 rfl (lv_at hl 0 rfl) ?_
  refine lv_iload_n hx hb dX11_given_44 rfl (lv_at hl 3 rfl) ?_
  refine lv_if_eq (tgt := 52) hx hb dX11_given_45 (by decide) (fun c_45 => ?_) (fun c_45 => ?_)
  · refine lv_iconst (v := 2) hx hb dX11_given_52 (by decide) ?_
    have hPc := hP.sub (ws' := [(q_7, .inr (3, [.null, .null, .null, .int 0, .int 0, .null, .int 0])), (r_3, .inl (u_4.1, 0, .inr (.inl (u_4.2))))]) [4, 2] rfl
    have hDc := hD.sub (ws' := [(q_7, .inr (3, [.null, .null, .null, .int 0, .int 0, .null, .int 0])), (r_3, .inl (u_4.1, 0, .inr (.inl (u_4.2))))]) [4, 2] (by decide) rfl
    have hKc := hK.sub (tys' := [(u_4.1, .long)]) [3] rfl
    have hFc := va_free (wc := [(q_7, .inr (3, [.null, .null, .null, .int 0, .int 0, .null, .int 0])), (r_3, .inl (u_4.1, 0, .inr (.inl (u_4.2))))]) hD hS hA [4, 2] rfl
    refine va_callv (va_runI (As := [.ref hm, .ref r_3, .ref r_5, .int 2]) (rest := [.ref q_7, .ref h0]) ⟨hx, hb, hml, hown, hts⟩ (c_X3_init_0 l dC dI q_7 hm r_3 r_5 u_4.1 u_4.2 2 H.size) (cwI 4 hts gX11_given_X3_init rfl rfl rfl (hts (.initialized RX3) (by decide +kernel)) (hts (.methodLink RX11 67 yX3_init) (by decide +kernel)) (hts (.instanceMethod yX3_init) (by decide +kernel)) rfl (by decide +kernel) ⟨Nat.le_of_ble_eq_true rfl, Nat.le_of_ble_eq_true rfl⟩) ⟨fun a U g mk q => by obtain ⟨q0, q1, qP, qK, qD⟩ := q; exact ⟨q0, q1, qP, va_K.moved (u := U) (U := U.calling g mk a) (Vm.Alike.refl U.vm) qK, qD⟩, fun U hU hW => ⟨rfl, by rw [hU], by rw [hU]; exact hPc, va_K.moved hW.alike hKc, hDc.weaken (fun _ _ _ _ => trivial)⟩⟩ rfl rfl hl.1 rfl (lv_room (Nat.le_of_ble_eq_true rfl)) dX11_given_53 ⟨Nat.le_of_ble_eq_true rfl, Nat.le_of_ble_eq_true rfl⟩) hS (fun q _ h => hFc q h) hFc (fun u_9 t H1 locs ht hvm hw hB hz1 hk1 hS => ?_)
    obtain ⟨hP1, hK1, hD1⟩ := hB
    rw [ht] at hP1
    have hK1 := va_K.moved hvm.symm hK1
    have hK := hK.app hK1
    obtain ⟨hP, hD⟩ := va_join (wr := [(h0, .inr (10, xF hm h1 h2 h3 0 0 1000)), (h1, .inl (c1, 24, .inr (.inr (.inr (.inr (f1)))))), (r_5, .inl (u_6.1, 0, .inl (u_6.2)))]) (w1 := [(q_7, .inr (3, [.ref hm, .ref r_3, .ref u_9, .int 0, .int 0, .ref r_5, .int 2]))]) hP hD [4, 2] [0, 1, 3] rfl rfl (by decide) (by decide) hk1 hFc hP1 hD1
    generalize H1 = H at hP hS ⊢
    have hP : va_P (dC, dI) vwCl [(h0, .inr (10, xF hm h1 h2 h3 0 0 1000)), (h1, .inl (c1, 24, .inr (.inr (.inr (.inr (f1)))))), (r_5, .inl (u_6.1, 0, .inl (u_6.2))), (q_7, .inr (3, [.ref hm, .ref r_3, .ref u_9, .int 0, .int 0, .ref r_5, .int 2]))] H := hP
    have hD : va_D A [(h0, .inr (10, xF hm h1 h2 h3 0 0 1000)), (h1, .inl (c1, 24, .inr (.inr (.inr (.inr (f1)))))), (r_5, .inl (u_6.1, 0, .inl (u_6.2))), (q_7, .inr (3, [.ref hm, .ref r_3, .ref u_9, .int 0, .int 0, .ref r_5, .int 2]))] := hD
    have hK : va_K (dC, dI) vwCl [(c1, .object RX5), (c2, .long), (c3, .byte), (u_4.1, .long), (u_6.1, .byte)] s := hK
    refine W.widen (k := 4) (n := 7) (by decide +kernel) (by decide +kernel) ?_
    have hPc := hP.sub (ws' := [(h0, .inr (10, xF hm h1 h2 h3 0 0 1000)), (h1, .inl (c1, 24, .inr (.inr (.inr (.inr (f1)))))), (q_7, .inr (3, [.ref hm, .ref r_3, .ref u_9, .int 0, .int 0, .ref r_5, .int 2]))]) [0, 1, 3] rfl
    have hDc := hD.sub (ws' := [(h0, .inr (10, xF hm h1 h2 h3 0 0 1000)), (h1, .inl (c1, 24, .inr (.inr (.inr (.inr (f1)))))), (q_7, .inr (3, [.ref hm, .ref r_3, .ref u_9, .int 0, .int 0, .ref r_5, .int 2]))]) [0, 1, 3] (by decide) rfl
    have hKc := hK.sub (tys' := [(c1, .object RX5)]) [0] rfl
    have hFc := va_free (wc := [(h0, .inr (10, xF hm h1 h2 h3 0 0 1000)), (h1, .inl (c1, 24, .inr (.inr (.inr (.inr (f1)))))), (q_7, .inr (3, [.ref hm, .ref r_3, .ref u_9, .int 0, .int 0, .ref r_5, .int 2]))]) hD hS hA [0, 1, 3] rfl
    refine va_calli (va_runV (As := [.ref q_7]) (rest := []) ⟨hx, hb, hml, hown, hts⟩ (c_X11_addList_G l hl0 dC dI h0 hm h1 h2 h3 c1 f1 q_7 ([.ref hm, .ref r_3, .ref u_9, .int 0, .int 0, .ref r_5, .int 2]) H.size) (cwV 1 hts gX11_given_X11_addList rfl rfl rfl (by decide +kernel) ⟨Nat.le_of_ble_eq_true rfl, Nat.le_of_ble_eq_true rfl⟩) ⟨fun a U g mk q => by obtain ⟨q0, q1, qP, qK, qD, qG, qZ⟩ := q; exact ⟨q0, q1, qP, va_K.moved (u := U) (U := U.calling g mk a) (Vm.Alike.refl U.vm) qK, qD, Gw.same (u := U) (U := U.calling g mk a) rfl qG, Gz.moved (u := U) (U := U.calling g mk a) (Vm.Alike.refl U.vm) qZ⟩, va_recv hKc hPc (ci := 10) (q0 := 0) rfl rfl, fun U hU hW => ⟨rfl, by rw [hU], by rw [hU]; exact hPc, va_K.moved hW.alike hKc, hDc.weaken (fun _ _ _ _ => trivial), Gw.warm hW hG, Gz.step hZ hS hFc hU hW.alike⟩⟩ rfl rfl hl.1 rfl (lv_room (Nat.le_of_ble_eq_true rfl)) dX11_given_56 ⟨Nat.le_of_ble_eq_true rfl, Nat.le_of_ble_eq_true rfl⟩) hS (fun q _ h => hFc q h) hFc (fun r_10 u_11 t H1 locs ht hvm hw hB hz1 hk1 hS => ?_)
    obtain ⟨hP, hD⟩ := nd_drop (wr := [(r_5, .inl (u_6.1, 0, .inl (u_6.2)))]) hP hD [0, 1, 3] [2] rfl rfl (by decide) (by decide) hk1 hFc
    generalize H1 = H at hP hS ⊢
    have hP : va_P (dC, dI) vwCl [(r_5, .inl (u_6.1, 0, .inl (u_6.2)))] H := hP
    have hD : va_D A [(r_5, .inl (u_6.1, 0, .inl (u_6.2)))] := hD
    refine W.widen (k := 4) (n := 7) (by decide +kernel) (by decide +kernel) ?_
    obtain rfl : r_10 = 0 := hw
    refine W.widen (k := 4) (n := 7) (by decide +kernel) (by decide +kernel) ?_
    exact W.iret (v := 0) hx hb hr (fun t ht hW => ⟨⟨0, (), rfl, rfl, trivial⟩, hS.F ht⟩) hS.2.2 dX11_given_59
  · refine lv_iconst (v := 4) hx hb dX11_given_48 (by decide) ?_
    refine lv_goto (tgt := 53) hx hb dX11_given_49 (by decide) ?_
    have hPc := hP.sub (ws' := [(q_7, .inr (3, [.null, .null, .null, .int 0, .int 0, .null, .int 0])), (r_3, .inl (u_4.1, 0, .inr (.inl (u_4.2))))]) [4, 2] rfl
    have hDc := hD.sub (ws' := [(q_7, .inr (3, [.null, .null, .null, .int 0, .int 0, .null, .int 0])), (r_3, .inl (u_4.1, 0, .inr (.inl (u_4.2))))]) [4, 2] (by decide) rfl
    have hKc := hK.sub (tys' := [(u_4.1, .long)]) [3] rfl
    have hFc := va_free (wc := [(q_7, .inr (3, [.null, .null, .null, .int 0, .int 0, .null, .int 0])), (r_3, .inl (u_4.1, 0, .inr (.inl (u_4.2))))]) hD hS hA [4, 2] rfl
    refine va_callv (va_runI (As := [.ref hm, .ref r_3, .ref r_5, .int 4]) (rest := [.ref q_7, .ref h0]) ⟨hx, hb, hml, hown, hts⟩ (c_X3_init_0 l dC dI q_7 hm r_3 r_5 u_4.1 u_4.2 4 H.size) (cwI 4 hts gX11_given_X3_init rfl rfl rfl (hts (.initialized RX3) (by decide +kernel)) (hts (.methodLink RX11 67 yX3_init) (by decide +kernel)) (hts (.instanceMethod yX3_init) (by decide +kernel)) rfl (by decide +kernel) ⟨Nat.le_of_ble_eq_true rfl, Nat.le_of_ble_eq_true rfl⟩) ⟨fun a U g mk q => by obtain ⟨q0, q1, qP, qK, qD⟩ := q; exact ⟨q0, q1, qP, va_K.moved (u := U) (U := U.calling g mk a) (Vm.Alike.refl U.vm) qK, qD⟩, fun U hU hW => ⟨rfl, by rw [hU], by rw [hU]; exact hPc, va_K.moved hW.alike hKc, hDc.weaken (fun _ _ _ _ => trivial)⟩⟩ rfl rfl hl.1 rfl (lv_room (Nat.le_of_ble_eq_true rfl)) dX11_given_53 ⟨Nat.le_of_ble_eq_true rfl, Nat.le_of_ble_eq_true rfl⟩) hS (fun q _ h => hFc q h) hFc (fun u_13 t H1 locs ht hvm hw hB hz1 hk1 hS => ?_)
    obtain ⟨hP1, hK1, hD1⟩ := hB
    rw [ht] at hP1
    have hK1 := va_K.moved hvm.symm hK1
    have hK := hK.app hK1
    obtain ⟨hP, hD⟩ := va_join (wr := [(h0, .inr (10, xF hm h1 h2 h3 0 0 1000)), (h1, .inl (c1, 24, .inr (.inr (.inr (.inr (f1)))))), (r_5, .inl (u_6.1, 0, .inl (u_6.2)))]) (w1 := [(q_7, .inr (3, [.ref hm, .ref r_3, .ref u_13, .int 0, .int 0, .ref r_5, .int 4]))]) hP hD [4, 2] [0, 1, 3] rfl rfl (by decide) (by decide) hk1 hFc hP1 hD1
    generalize H1 = H at hP hS ⊢
    have hP : va_P (dC, dI) vwCl [(h0, .inr (10, xF hm h1 h2 h3 0 0 1000)), (h1, .inl (c1, 24, .inr (.inr (.inr (.inr (f1)))))), (r_5, .inl (u_6.1, 0, .inl (u_6.2))), (q_7, .inr (3, [.ref hm, .ref r_3, .ref u_13, .int 0, .int 0, .ref r_5, .int 4]))] H := hP
    have hD : va_D A [(h0, .inr (10, xF hm h1 h2 h3 0 0 1000)), (h1, .inl (c1, 24, .inr (.inr (.inr (.inr (f1)))))), (r_5, .inl (u_6.1, 0, .inl (u_6.2))), (q_7, .inr (3, [.ref hm, .ref r_3, .ref u_13, .int 0, .int 0, .ref r_5, .int 4]))] := hD
    have hK : va_K (dC, dI) vwCl [(c1, .object RX5), (c2, .long), (c3, .byte), (u_4.1, .long), (u_6.1, .byte)] s := hK
    refine W.widen (k := 4) (n := 7) (by decide +kernel) (by decide +kernel) ?_
    have hPc := hP.sub (ws' := [(h0, .inr (10, xF hm h1 h2 h3 0 0 1000)), (h1, .inl (c1, 24, .inr (.inr (.inr (.inr (f1)))))), (q_7, .inr (3, [.ref hm, .ref r_3, .ref u_13, .int 0, .int 0, .ref r_5, .int 4]))]) [0, 1, 3] rfl
    have hDc := hD.sub (ws' := [(h0, .inr (10, xF hm h1 h2 h3 0 0 1000)), (h1, .inl (c1, 24, .inr (.inr (.inr (.inr (f1)))))), (q_7, .inr (3, [.ref hm, .ref r_3, .ref u_13, .int 0, .int 0, .ref r_5, .int 4]))]) [0, 1, 3] (by decide) rfl
    have hKc := hK.sub (tys' := [(c1, .object RX5)]) [0] rfl
    have hFc := va_free (wc := [(h0, .inr (10, xF hm h1 h2 h3 0 0 1000)), (h1, .inl (c1, 24, .inr (.inr (.inr (.inr (f1)))))), (q_7, .inr (3, [.ref hm, .ref r_3, .ref u_13, .int 0, .int 0, .ref r_5, .int 4]))]) hD hS hA [0, 1, 3] rfl
    refine va_calli (va_runV (As := [.ref q_7]) (rest := []) ⟨hx, hb, hml, hown, hts⟩ (c_X11_addList_G l hl0 dC dI h0 hm h1 h2 h3 c1 f1 q_7 ([.ref hm, .ref r_3, .ref u_13, .int 0, .int 0, .ref r_5, .int 4]) H.size) (cwV 1 hts gX11_given_X11_addList rfl rfl rfl (by decide +kernel) ⟨Nat.le_of_ble_eq_true rfl, Nat.le_of_ble_eq_true rfl⟩) ⟨fun a U g mk q => by obtain ⟨q0, q1, qP, qK, qD, qG, qZ⟩ := q; exact ⟨q0, q1, qP, va_K.moved (u := U) (U := U.calling g mk a) (Vm.Alike.refl U.vm) qK, qD, Gw.same (u := U) (U := U.calling g mk a) rfl qG, Gz.moved (u := U) (U := U.calling g mk a) (Vm.Alike.refl U.vm) qZ⟩, va_recv hKc hPc (ci := 10) (q0 := 0) rfl rfl, fun U hU hW => ⟨rfl, by rw [hU], by rw [hU]; exact hPc, va_K.moved hW.alike hKc, hDc.weaken (fun _ _ _ _ => trivial), Gw.warm hW hG, Gz.step hZ hS hFc hU hW.alike⟩⟩ rfl rfl hl.1 rfl (lv_room (Nat.le_of_ble_eq_true rfl)) dX11_given_56 ⟨Nat.le_of_ble_eq_true rfl, Nat.le_of_ble_eq_true rfl⟩) hS (fun q _ h => hFc q h) hFc (fun r_14 u_15 t H1 locs ht hvm hw hB hz1 hk1 hS => ?_)
    obtain ⟨hP, hD⟩ := nd_drop (wr := [(r_5, .inl (u_6.1, 0, .inl (u_6.2)))]) hP hD [0, 1, 3] [2] rfl rfl (by decide) (by decide) hk1 hFc
    generalize H1 = H at hP hS ⊢
    have hP : va_P (dC, dI) vwCl [(r_5, .inl (u_6.1, 0, .inl (u_6.2)))] H := hP
    have hD : va_D A [(r_5, .inl (u_6.1, 0, .inl (u_6.2)))] := hD
    refine W.widen (k := 4) (n := 7) (by decide +kernel) (by decide +kernel) ?_
    obtain rfl : r_14 = 0 := hw
    refine W.widen (k := 4) (n := 7) (by decide +kernel) (by decide +kernel) ?_
    exact W.iret (v := 0) hx hb hr (fun t ht hW => ⟨⟨0, (), rfl, rfl, trivial⟩, hS.F ht⟩) hS.2.2 dX11_given_59
set_option maxHeartbeats 4000000 in
set_option maxRecDepth 100000 in
theorem count_loop {p : Program} {l : Launch} {e : Env} {R : Room} {s : State} {m : MethodId} {args : Array Value} {below : List Frame} {meth : Method} {c : Code} {Q : State → Prop} {cells slots : Nat} {A : Nat → Prop} {dC : Nat → ClassId} {dI : Nat → Nat → Nat} {h0 hm h1 h2 h3 q : Nat} {c1 cq : ClassId} {f1 : Nat → Option Nat} {p0 p1 : Int64} (hx : p.tables.exec = Jvm.exec) (hb : c.code = cX11_count) (hK : va_K (dC, dI) vwCl [(c1, .object RX5), (cq, .long)] s)
    (kk : ∀ (f : Nat → Int64) (H : Heap) (locs : List Loc) (ls : Array Slot), va_P (dC, dI) vwCl [(h0, .inr (10, xF hm h1 h2 h3 0 0 1000)), (h1, .inl (c1, 24, .inr (.inr (.inr (.inr (f1)))))), (q, .inl (cq, 400, .inr (.inl (f))))] H → va_D A [(h0, .inr (10, xF hm h1 h2 h3 0 0 1000)), (h1, .inl (c1, 24, .inr (.inr (.inr (.inr (f1)))))), (q, .inl (cq, 400, .inr (.inl (f))))] → va_S A s.heap H locs → lv_has ls 7 [(0, .ref h0), (1, .long p0), (3, .long p1), (5, .ref q)] → W p l e R s m args below meth c H locs cells slots Q (F0 m 40 ls [])) :
    ∀ (n i : Nat) (f : Nat → Int64) (H : Heap) (locs : List Loc) (ls : Array Slot), i + n = 400 → va_P (dC, dI) vwCl [(h0, .inr (10, xF hm h1 h2 h3 0 0 1000)), (h1, .inl (c1, 24, .inr (.inr (.inr (.inr (f1)))))), (q, .inl (cq, 400, .inr (.inl (f))))] H → va_D A [(h0, .inr (10, xF hm h1 h2 h3 0 0 1000)), (h1, .inl (c1, 24, .inr (.inr (.inr (.inr (f1)))))), (q, .inl (cq, 400, .inr (.inl (f))))] → va_S A s.heap H locs → lv_has ls 7 [(0, .ref h0), (1, .long p0), (3, .long p1), (5, .ref q), (6, .int (nI i))] → W p l e R s m args below meth c H locs cells slots Q (F0 m 14 ls []) := by
  intro n
  induction n with
  | zero =>
    intro i f H locs ls hi hP hD hS hl
    obtain rfl : i = 400 := by omega
    refine lv_iload hx hb dX11_count_14 (lv_at hl 4 rfl) ?_
    refine lv_sipush (v := 400) hx hb dX11_count_16 (by decide) ?_
    refine lv_icmp_ge (tgt := 40) hx hb dX11_count_19 (by decide) (fun c_19 => ?_) (fun c_19 => ?_)
    · exact kk f H locs ls hP hD hS (lv_sub hl [0, 1, 2, 3] rfl)
    · exact absurd (by decide) c_19
  | succ n ih =>
    intro i f H locs ls hi hP hD hS hl
    refine lv_iload hx hb dX11_count_14 (lv_at hl 4 rfl) ?_
    refine lv_sipush (v := 400) hx hb dX11_count_16 (by decide) ?_
    refine lv_icmp_ge (tgt := 40) hx hb dX11_count_19 (by decide) (fun c_19 => ?_) (fun c_19 => ?_)
    · exact absurd c_19 (nI_ge (a := i) (b := 400) (by omega) (by decide))
    · refine lv_aload hx hb dX11_count_22 (lv_at hl 3 rfl) ?_
      refine lv_iload hx hb dX11_count_24 (lv_at hl 4 rfl) ?_
      refine lv_lload_n hx hb dX11_count_26 rfl (lv_at hl 1 rfl) ?_
      refine lv_iload hx hb dX11_count_27 (lv_at hl 4 rfl) ?_
      refine lv_i2l hx hb dX11_count_29 rfl ?_
      refine lv_lload_n hx hb dX11_count_30 rfl (lv_at hl 2 rfl) ?_
      refine lv_lmul hx hb dX11_count_31 ?_
      refine lv_ladd hx hb dX11_count_32 ?_
      refine va_last hx hb hK hP hD hS 2 1 rfl rfl (vp_in_nI (n := i) (N := 400) (by omega) (by decide)) dX11_count_33 (fun H locs hP hD hS => ?_)
      refine lv_iinc (v := nI (i + 1)) (lv' := [(6, .int (nI (i + 1))), (0, .ref h0), (1, .long p0), (3, .long p1), (5, .ref q)]) hx hb dX11_count_34 hl (k := 4) rfl (nI_1 i) (by decide) rfl (fun ls hl => ?_)
      refine lv_goto (tgt := 14) hx hb dX11_count_37 (by decide) ?_
      exact ih (i + 1) _ H locs ls (by omega) hP hD hS (lv_sub hl [1, 2, 3, 4, 0] rfl)
set_option maxHeartbeats 4000000 in
set_option maxRecDepth 100000 in
theorem c_X11_count (l : Launch) (hl0 : l.stackTraces = false) (dC : Nat → ClassId) (dI : Nat → Nat → Nat) (h0 : Nat) (hm : Nat) (h1 : Nat) (h2 : Nat) (h3 : Nat) (c1 : ClassId) (f1 : Nat → Option Nat) (p0 : Int64) (p1 : Int64) (sz : Nat) : Met l yX11_count wsX11_count ({ frames := 30, cells := 4, slots := 1300, locals := 900 }) (va_Pc [.ref h0, .long p0, .long p1] (fun U => U.heap.size = sz ∧ va_P (dC, dI) vwCl [(h0, .inr (10, xF hm h1 h2 h3 0 0 1000)), (h1, .inl (c1, 24, .inr (.inr (.inr (.inr (f1))))))] U.heap ∧ va_K (dC, dI) vwCl [(c1, .object RX5)] U ∧ va_D (fun _ => True) [(h0, .inr (10, xF hm h1 h2 h3 0 0 1000)), (h1, .inl (c1, 24, .inr (.inr (.inr (.inr (f1))))))] ∧ Gw U ∧ Gz (va_A [(h0, .inr (10, xF hm h1 h2 h3 0 0 1000)), (h1, .inl (c1, 24, .inr (.inr (.inr (.inr (f1))))))] sz) U U.heap)) (va_Qi (fun (r : Int32) (_ : Unit) => r = 0) (fun _ _ => True) (va_A [(h0, .inr (10, xF hm h1 h2 h3 0 0 1000)), (h1, .inl (c1, 24, .inr (.inr (.inr (.inr (f1))))))] sz)) 4 1300 (va_A [(h0, .inr (10, xF hm h1 h2 h3 0 0 1000)), (h1, .inl (c1, 24, .inr (.inr (.inr (.inr (f1))))))] sz) := by
  refine Met.ofW (cc := cX11_count) (maxL := 7) (ret := (some .int)) (by decide) rfl ?_
  intro p e s m args below meth c s₁ B hml hv
  obtain ⟨rfl, hsz, hP, hK, hD0, hG, hZ⟩ := hv
  have hx := B.exec
  have hb := B.bytes
  have hr := B.returns
  have hts := atoms_spec (ws := wsX11_count) B.pre
  have hown : s.vm.findClass RX11 = some m.cls := findClass_of_methodNamed B.named
  have hlocks := B.notSynchronized
  subst hsz
  have hD := hD0.self (sz := s.heap.size)
  generalize hAe : va_A [(h0, .inr (10, xF hm h1 h2 h3 0 0 1000)), (h1, .inl (c1, 24, .inr (.inr (.inr (.inr (f1))))))] s.heap.size = A at hD hZ ⊢
  have hA : ∀ q : Nat, s.heap.size ≤ q → A q := fun q h => by rw [← hAe]; exact Or.inr h
  generalize hH : s.heap = H at hP ⊢
  have hS : va_S A s.heap H [] := by rw [← hH]; exact va_S.rf
  have hl := lv_entry [.ref h0, .long p0, .long p1] (n := 7) (Nat.le_of_ble_eq_true rfl)
  rw [lg_entry_eq]
  generalize (lg_sl [.ref h0, .long p0, .long p1] ++ List.replicate (7 - (lg_sl [.ref h0, .long p0, .long p1]).length) Slot.unset).toArray = ls at hl ⊢
  have hl : lv_has ls 7 [(0, .ref h0), (1, .long p0), (3, .long p1)] := hl
  have hP : va_P (dC, dI) vwCl [(h0, .inr (10, xF hm h1 h2 h3 0 0 1000)), (h1, .inl (c1, 24, .inr (.inr (.inr (.inr (f1))))))] H := hP
  refine lv_aload_n hx hb dX11_count_0 rfl (lv_at hl 0 rfl) ?_
  have hPc := hP.sub (ws' := [(h0, .inr (10, xF hm h1 h2 h3 0 0 1000))]) [0] rfl
  have hDc : va_D (fun _ => True) ([] : va_W) := nd_0
  have hKc := hK.sub (tys' := []) [] rfl
  have hFc := va_free (wc := []) hD hS hA [] rfl
  refine va_callv (va_runV (As := []) (rest := []) ⟨hx, hb, hml, hown, hts⟩ (c_X11_checkRoom l dC dI h0 hm h1 h2 h3 H.size) (cwV 0 hts gX11_count_X11_checkRoom rfl rfl rfl (by decide +kernel) ⟨Nat.le_of_ble_eq_true rfl, Nat.le_of_ble_eq_true rfl⟩) ⟨fun a U g mk q => by obtain ⟨q0, q1, qP, qK, qD⟩ := q; exact ⟨q0, q1, qP, va_K.moved (u := U) (U := U.calling g mk a) (Vm.Alike.refl U.vm) qK, qD⟩, va_recv hKc hPc (ci := 10) (q0 := 0) rfl rfl, fun U hU hW => ⟨rfl, by rw [hU], by rw [hU]; exact hPc, va_K.moved hW.alike hKc, nd_0⟩⟩ rfl rfl hl.1 rfl (lv_room (Nat.le_of_ble_eq_true rfl)) dX11_count_1 ⟨Nat.le_of_ble_eq_true rfl, Nat.le_of_ble_eq_true rfl⟩) hS (fun q _ h => hFc q h) hFc (fun u_2 t H1 locs ht hvm hw hB hz1 hk1 hS => ?_)
  have hP := nd_keep hP hk1
  generalize H1 = H at hP hS ⊢
  have hP : va_P (dC, dI) vwCl [(h0, .inr (10, xF hm h1 h2 h3 0 0 1000)), (h1, .inl (c1, 24, .inr (.inr (.inr (.inr (f1))))))] H := hP
  have hD : va_D A [(h0, .inr (10, xF hm h1 h2 h3 0 0 1000)), (h1, .inl (c1, 24, .inr (.inr (.inr (.inr (f1))))))] := hD
  refine W.widen (k := 0) (n := 0) (by decide +kernel) (by decide +kernel) ?_
  refine lv_sipush (v := 400) hx hb dX11_count_4 (by decide) ?_
  refine va_newa (atype := .long) (ty := .long) (N' := 400) (a0 := (400, .inr (.inl (fun _ => 0)))) hx hb (hts (.arrayClass .long) (by decide +kernel)) rfl hK hP hD hS hA (nd_along 400) (by decide +kernel) (by decide +kernel) (by decide +kernel) (by decide +kernel) (by decide +kernel) dX11_count_7 (fun q_3 cA_4 H hK hP hD hS => ?_)
  have hP : va_P (dC, dI) vwCl [(h0, .inr (10, xF hm h1 h2 h3 0 0 1000)), (h1, .inl (c1, 24, .inr (.inr (.inr (.inr (f1)))))), (q_3, .inl (cA_4, 400, .inr (.inl (fun _ => 0))))] H := hP
  have hD : va_D A [(h0, .inr (10, xF hm h1 h2 h3 0 0 1000)), (h1, .inl (c1, 24, .inr (.inr (.inr (.inr (f1)))))), (q_3, .inl (cA_4, 400, .inr (.inl (fun _ => 0))))] := hD
  have hK : va_K (dC, dI) vwCl [(c1, .object RX5), (cA_4, .long)] s := hK
  refine W.widen (k := 1) (n := 400) (by decide +kernel) (by decide +kernel) ?_
  refine lv_astore (lv' := [(5, .ref q_3), (0, .ref h0), (1, .long p0), (3, .long p1)]) hx hb dX11_count_9 hl (by decide) rfl (fun ls hl => ?_)
  refine lv_iconst (v := 0) hx hb dX11_count_11 (by decide) ?_
  refine lv_istore (lv' := [(6, .int 0), (5, .ref q_3), (0, .ref h0), (1, .long p0), (3, .long p1)]) hx hb dX11_count_12 hl (by decide) rfl (fun ls hl => ?_)
  refine count_loop (q := q_3) (cq := cA_4) (c1 := c1) (f1 := f1) (p0 := p0) (p1 := p1) hx hb hK (fun f H locs ls hP hD hS hl => ?_) 400 0 (fun _ => 0) H _ ls rfl hP hD hS (lv_sub hl [2, 3, 4, 1, 0] rfl)
  refine lv_sipush (v := 400) hx hb dX11_count_40 (by decide) ?_
  refine va_newa (atype := .byte) (ty := .byte) (N' := 400) (a0 := (400, .inl (fun _ => 0))) hx hb (hts (.arrayClass .byte) (by decide +kernel)) rfl hK hP hD hS hA (nd_abyte 400) (by decide +kernel) (by decide +kernel) (by decide +kernel) (by decide +kernel) (by decide +kernel) dX11_count_43 (fun q_5 cA_6 H hK hP hD hS => ?_)
  have hP : va_P (dC, dI) vwCl [(h0, .inr (10, xF hm h1 h2 h3 0 0 1000)), (h1, .inl (c1, 24, .inr (.inr (.inr (.inr (f1)))))), (q_3, .inl (cA_4, 400, .inr (.inl (f)))), (q_5, .inl (cA_6, 400, .inl (fun _ => 0)))] H := hP
  have hD : va_D A [(h0, .inr (10, xF hm h1 h2 h3 0 0 1000)), (h1, .inl (c1, 24, .inr (.inr (.inr (.inr (f1)))))), (q_3, .inl (cA_4, 400, .inr (.inl (f)))), (q_5, .inl (cA_6, 400, .inl (fun _ => 0)))] := hD
  have hK : va_K (dC, dI) vwCl [(c1, .object RX5), (cA_4, .long), (cA_6, .byte)] s := hK
  refine W.widen (k := 2) (n := 800) (by decide +kernel) (by decide +kernel) ?_
  refine lv_astore (lv' := [(6, .ref q_5), (0, .ref h0), (1, .long p0), (3, .long p1), (5, .ref q_3)]) hx hb dX11_count_45 hl (by decide) rfl (fun ls hl => ?_)
  refine lv_aload hx hb dX11_count_47 (lv_at hl 0 rfl) ?_
  refine lv_iconst (v := 1) hx hb dX11_count_49 (by decide) ?_
  have hPc := hP.sub (ws' := [(q_5, .inl (cA_6, 400, .inl (fun _ => 0)))]) [3] rfl
  have hDc := hD.sub (ws' := [(q_5, .inl (cA_6, 400, .inl (fun _ => 0)))]) [3] (by decide) rfl
  have hKc := hK.sub (tys' := [(cA_6, .byte)]) [2] rfl
  have hFc := va_free (wc := [(q_5, .inl (cA_6, 400, .inl (fun _ => 0)))]) hD hS hA [3] rfl
  refine va_callv (va_runS (As := [.ref q_5, .int 1]) (rest := []) ⟨hx, hb, hml, hown, hts⟩ (c_J7_fill_031fb l dC dI q_5 cA_6 (fun _ => 0) 1 H.size) (va_cwS 2 hts gX11_count_J7_fill_031fb rfl rfl rfl (by decide +kernel) ⟨Nat.le_of_ble_eq_true rfl, Nat.le_of_ble_eq_true rfl⟩) ⟨fun a U g mk q => by obtain ⟨q0, q1, qP, qK, qD⟩ := q; exact ⟨q0, q1, qP, va_K.moved (u := U) (U := U.calling g mk a) (Vm.Alike.refl U.vm) qK, qD⟩, fun U hU hW => ⟨rfl, by rw [hU], by rw [hU]; exact hPc, va_K.moved hW.alike hKc, hDc.weaken (fun _ _ _ _ => trivial)⟩⟩ rfl rfl hl.1 rfl (lv_room (Nat.le_of_ble_eq_true rfl)) dX11_count_50 ⟨Nat.le_of_ble_eq_true rfl, Nat.le_of_ble_eq_true rfl⟩) hS (fun q _ h => hFc q h) hFc (fun u_8 t H1 locs ht hvm hw hB hz1 hk1 hS => ?_)
  obtain ⟨hP, hD⟩ := nd_drop (wr := [(h0, .inr (10, xF hm h1 h2 h3 0 0 1000)), (h1, .inl (c1, 24, .inr (.inr (.inr (.inr (f1)))))), (q_3, .inl (cA_4, 400, .inr (.inl (f))))]) hP hD [3] [0, 1, 2] rfl rfl (by decide) (by decide) hk1 hFc
  generalize H1 = H at hP hS ⊢
  have hP : va_P (dC, dI) vwCl [(h0, .inr (10, xF hm h1 h2 h3 0 0 1000)), (h1, .inl (c1, 24, .inr (.inr (.inr (.inr (f1)))))), (q_3, .inl (cA_4, 400, .inr (.inl (f))))] H := hP
  have hD : va_D A [(h0, .inr (10, xF hm h1 h2 h3 0 0 1000)), (h1, .inl (c1, 24, .inr (.inr (.inr (.inr (f1)))))), (q_3, .inl (cA_4, 400, .inr (.inl (f))))] := hD
  refine W.widen (k := 2) (n := 800) (by decide +kernel) (by decide +kernel) ?_
  refine lv_aload_n hx hb dX11_count_53 rfl (lv_at hl 1 rfl) ?_
  refine va_new (ci := 3) (fs := [.null, .null, .null, .int 0, .int 0, .null, .int 0]) (C := RX3) (T := TX3) (N := 7) hx hb hts (by decide +kernel) tyX3 tyX3_ok hown (hts (.classLink RX11 65 RX3) (by decide +kernel)) (hts (.instantiable RX3 7) (by decide +kernel)) (hts (.initialized RX3) (by decide +kernel)) hK hP hD hS hA rfl (fun j hj => by rcases (show j = 0 ∨ j = 1 ∨ j = 2 ∨ j = 3 ∨ j = 4 ∨ j = 5 ∨ j = 6 by omega) with rfl | rfl | rfl | rfl | rfl | rfl | rfl <;> rfl) (by decide +kernel) (by decide +kernel) dX11_count_54 (fun q_9 H hP hD hS => ?_)
  have hP : va_P (dC, dI) vwCl [(h0, .inr (10, xF hm h1 h2 h3 0 0 1000)), (h1, .inl (c1, 24, .inr (.inr (.inr (.inr (f1)))))), (q_3, .inl (cA_4, 400, .inr (.inl (f)))), (q_9, .inr (3, [.null, .null, .null, .int 0, .int 0, .null, .int 0]))] H := hP
  have hD : va_D A [(h0, .inr (10, xF hm h1 h2 h3 0 0 1000)), (h1, .inl (c1, 24, .inr (.inr (.inr (.inr (f1)))))), (q_3, .inl (cA_4, 400, .inr (.inl (f)))), (q_9, .inr (3, [.null, .null, .null, .int 0, .int 0, .null, .int 0]))] := hD
  refine W.widen (k := 3) (n := 807) (by decide +kernel) (by decide +kernel) ?_
  refine lv_dup hx hb dX11_count_57 rfl ?_
  refine lv_aload_n hx hb dX11_count_58 rfl (lv_at hl 1 rfl) ?_
  refine va_get (D := (dC, dI)) (ci := 10) (v := .ref hm) (C := RX11) (T := TX11) (N := 9) hx hb hts (by decide +kernel) hown hK hP 0 rfl rfl 0 (by decide) (hts (.fieldLink RX11 12 "NeededLists" "meter" "LNeededLists$Meter;") (by decide +kernel)) (fun _ h9 => h9) rfl dX11_count_59 ?_
  refine lv_aload hx hb dX11_count_62 (lv_at hl 4 rfl) ?_
  refine lv_aload hx hb dX11_count_64 (lv_at hl 0 rfl) ?_
  refine lv_iconst (v := 3) hx hb dX11_count_66 (by decide) ?_
  have hPc := hP.sub (ws' := [(q_9, .inr (3, [.null, .null, .null, .int 0, .int 0, .null, .int 0])), (q_3, .inl (cA_4, 400, .inr (.inl (f))))]) [3, 2] rfl
  have hDc := hD.sub (ws' := [(q_9, .inr (3, [.null, .null, .null, .int 0, .int 0, .null, .int 0])), (q_3, .inl (cA_4, 400, .inr (.inl (f))))]) [3, 2] (by decide) rfl
  have hKc := hK.sub (tys' := [(cA_4, .long)]) [1] rfl
  have hFc := va_free (wc := [(q_9, .inr (3, [.null, .null, .null, .int 0, .int 0, .null, .int 0])), (q_3, .inl (cA_4, 400, .inr (.inl (f))))]) hD hS hA [3, 2] rfl
  refine va_callv (va_runI (As := [.ref hm, .ref q_3, .ref q_5, .int 3]) (rest := [.ref q_9, .ref h0]) ⟨hx, hb, hml, hown, hts⟩ (c_X3_init_400 l dC dI q_9 hm q_3 q_5 cA_4 f 3 H.size) (cwI 4 hts gX11_count_X3_init rfl rfl rfl (hts (.initialized RX3) (by decide +kernel)) (hts (.methodLink RX11 67 yX3_init) (by decide +kernel)) (hts (.instanceMethod yX3_init) (by decide +kernel)) rfl (by decide +kernel) ⟨Nat.le_of_ble_eq_true rfl, Nat.le_of_ble_eq_true rfl⟩) ⟨fun a U g mk q => by obtain ⟨q0, q1, qP, qK, qD⟩ := q; exact ⟨q0, q1, qP, va_K.moved (u := U) (U := U.calling g mk a) (Vm.Alike.refl U.vm) qK, qD⟩, fun U hU hW => ⟨rfl, by rw [hU], by rw [hU]; exact hPc, va_K.moved hW.alike hKc, hDc.weaken (fun _ _ _ _ => trivial)⟩⟩ rfl rfl hl.1 rfl (lv_room (Nat.le_of_ble_eq_true rfl)) dX11_count_67 ⟨Nat.le_of_ble_eq_true rfl, Nat.le_of_ble_eq_true rfl⟩) hS (fun q _ h => hFc q h) hFc (fun u_11 t H1 locs ht hvm hw hB hz1 hk1 hS => ?_)
  obtain ⟨hP1, hK1, hD1⟩ := hB
  rw [ht] at hP1
  have hK1 := va_K.moved hvm.symm hK1
  have hK := hK.app hK1
  obtain ⟨hP, hD⟩ := va_join (wr := [(h0, .inr (10, xF hm h1 h2 h3 0 0 1000)), (h1, .inl (c1, 24, .inr (.inr (.inr (.inr (f1))))))]) (w1 := [(q_9, .inr (3, [.ref hm, .ref q_3, .ref u_11, .int 0, .int 0, .ref q_5, .int 3]))]) hP hD [3, 2] [0, 1] rfl rfl (by decide) (by decide) hk1 hFc hP1 hD1
  generalize H1 = H at hP hS ⊢
  have hP : va_P (dC, dI) vwCl [(h0, .inr (10, xF hm h1 h2 h3 0 0 1000)), (h1, .inl (c1, 24, .inr (.inr (.inr (.inr (f1)))))), (q_9, .inr (3, [.ref hm, .ref q_3, .ref u_11, .int 0, .int 0, .ref q_5, .int 3]))] H := hP
  have hD : va_D A [(h0, .inr (10, xF hm h1 h2 h3 0 0 1000)), (h1, .inl (c1, 24, .inr (.inr (.inr (.inr (f1)))))), (q_9, .inr (3, [.ref hm, .ref q_3, .ref u_11, .int 0, .int 0, .ref q_5, .int 3]))] := hD
  have hK : va_K (dC, dI) vwCl [(c1, .object RX5), (cA_4, .long), (cA_6, .byte)] s := hK
  refine W.widen (k := 4) (n := 1207) (by decide +kernel) (by decide +kernel) ?_
  have hPc := hP.sub (ws' := [(h0, .inr (10, xF hm h1 h2 h3 0 0 1000)), (h1, .inl (c1, 24, .inr (.inr (.inr (.inr (f1)))))), (q_9, .inr (3, [.ref hm, .ref q_3, .ref u_11, .int 0, .int 0, .ref q_5, .int 3]))]) [0, 1, 2] rfl
  have hDc := hD.sub (ws' := [(h0, .inr (10, xF hm h1 h2 h3 0 0 1000)), (h1, .inl (c1, 24, .inr (.inr (.inr (.inr (f1)))))), (q_9, .inr (3, [.ref hm, .ref q_3, .ref u_11, .int 0, .int 0, .ref q_5, .int 3]))]) [0, 1, 2] (by decide) rfl
  have hKc := hK.sub (tys' := [(c1, .object RX5)]) [0] rfl
  have hFc := va_free (wc := [(h0, .inr (10, xF hm h1 h2 h3 0 0 1000)), (h1, .inl (c1, 24, .inr (.inr (.inr (.inr (f1)))))), (q_9, .inr (3, [.ref hm, .ref q_3, .ref u_11, .int 0, .int 0, .ref q_5, .int 3]))]) hD hS hA [0, 1, 2] rfl
  refine va_calli (va_runV (As := [.ref q_9]) (rest := []) ⟨hx, hb, hml, hown, hts⟩ (c_X11_addList_G l hl0 dC dI h0 hm h1 h2 h3 c1 f1 q_9 ([.ref hm, .ref q_3, .ref u_11, .int 0, .int 0, .ref q_5, .int 3]) H.size) (cwV 1 hts gX11_count_X11_addList rfl rfl rfl (by decide +kernel) ⟨Nat.le_of_ble_eq_true rfl, Nat.le_of_ble_eq_true rfl⟩) ⟨fun a U g mk q => by obtain ⟨q0, q1, qP, qK, qD, qG, qZ⟩ := q; exact ⟨q0, q1, qP, va_K.moved (u := U) (U := U.calling g mk a) (Vm.Alike.refl U.vm) qK, qD, Gw.same (u := U) (U := U.calling g mk a) rfl qG, Gz.moved (u := U) (U := U.calling g mk a) (Vm.Alike.refl U.vm) qZ⟩, va_recv hKc hPc (ci := 10) (q0 := 0) rfl rfl, fun U hU hW => ⟨rfl, by rw [hU], by rw [hU]; exact hPc, va_K.moved hW.alike hKc, hDc.weaken (fun _ _ _ _ => trivial), Gw.warm hW hG, Gz.step hZ hS hFc hU hW.alike⟩⟩ rfl rfl hl.1 rfl (lv_room (Nat.le_of_ble_eq_true rfl)) dX11_count_70 ⟨Nat.le_of_ble_eq_true rfl, Nat.le_of_ble_eq_true rfl⟩) hS (fun q _ h => hFc q h) hFc (fun r_12 u_13 t H1 locs ht hvm hw hB hz1 hk1 hS => ?_)
  obtain ⟨hP, hD⟩ := nd_drop (wr := []) hP hD [0, 1, 2] [] rfl rfl (by decide) (by decide) hk1 hFc
  generalize H1 = H at hP hS ⊢
  have hP : va_P (dC, dI) vwCl [] H := hP
  have hD : va_D A [] := hD
  refine W.widen (k := 4) (n := 1207) (by decide +kernel) (by decide +kernel) ?_
  obtain rfl : r_12 = 0 := hw
  refine W.widen (k := 4) (n := 1300) (by decide +kernel) (by decide +kernel) ?_
  exact W.iret (v := 0) hx hb hr (fun t ht hW => ⟨⟨0, (), rfl, rfl, trivial⟩, hS.F ht⟩) hS.2.2 dX11_count_73
set_option maxHeartbeats 4000000 in
set_option maxRecDepth 100000 in
theorem c_X11_iterate (l : Launch) (hl0 : l.stackTraces = false) (dC : Nat → ClassId) (dI : Nat → Nat → Nat) (h0 : Nat) (hm : Nat) (h1 : Nat) (h2 : Nat) (h3 : Nat) (c1 : ClassId) (f1 : Nat → Option Nat) (p0 : Int32) (p1 : Int64) (p2 : Int64) (sz : Nat) : vx_Met l yX11_iterate wsX11_iterate ({ frames := 30, cells := 4, slots := 900, locals := 900 }) (va_Pc [.ref h0, .int p0, .long p1, .long p2] (fun U => U.heap.size = sz ∧ va_P (dC, dI) vwCl [(h0, .inr (10, xF hm h1 h2 h3 0 0 1000)), (h1, .inl (c1, 24, .inr (.inr (.inr (.inr (f1))))))] U.heap ∧ va_K (dC, dI) vwCl [(c1, .object RX5)] U ∧ va_D (fun _ => True) [(h0, .inr (10, xF hm h1 h2 h3 0 0 1000)), (h1, .inl (c1, 24, .inr (.inr (.inr (.inr (f1))))))] ∧ Gw U ∧ Gz (va_A [(h0, .inr (10, xF hm h1 h2 h3 0 0 1000)), (h1, .inl (c1, 24, .inr (.inr (.inr (.inr (f1))))))] sz) U U.heap)) (va_Qi (fun (r : Int32) (_ : Unit) => r = 0 ∧ kOp p0 = 0) (fun _ _ => True) (va_A [(h0, .inr (10, xF hm h1 h2 h3 0 0 1000)), (h1, .inl (c1, 24, .inr (.inr (.inr (.inr (f1))))))] sz)) (vx_X (fun _ : Unit => kOp p0 = 1) (fun E _ _ => E = "java/lang/IllegalArgumentException") (va_A [(h0, .inr (10, xF hm h1 h2 h3 0 0 1000)), (h1, .inl (c1, 24, .inr (.inr (.inr (.inr (f1))))))] sz)) 4 900 (va_A [(h0, .inr (10, xF hm h1 h2 h3 0 0 1000)), (h1, .inl (c1, 24, .inr (.inr (.inr (.inr (f1))))))] sz) := by
  refine vx_ofW (cc := cX11_iterate) (maxL := 6) (ret := (some .int)) (by decide) rfl ?_
  intro p e s m args below meth c s₁ B hml htab hv
  obtain ⟨rfl, hsz, hP, hK, hD0, hG, hZ⟩ := hv
  have hx := B.exec
  have hb := B.bytes
  have hr := B.returns
  have hts := atoms_spec (ws := wsX11_iterate) B.pre
  have hown : s.vm.findClass RX11 = some m.cls := findClass_of_methodNamed B.named
  have hlocks := B.notSynchronized
  subst hsz
  have hD := hD0.self (sz := s.heap.size)
  generalize hAe : va_A [(h0, .inr (10, xF hm h1 h2 h3 0 0 1000)), (h1, .inl (c1, 24, .inr (.inr (.inr (.inr (f1))))))] s.heap.size = A at hD hZ ⊢
  have hA : ∀ q : Nat, s.heap.size ≤ q → A q := fun q h => by rw [← hAe]; exact Or.inr h
  generalize hH : s.heap = H at hP ⊢
  have hS : va_S A s.heap H [] := by rw [← hH]; exact va_S.rf
  have hl := lv_entry [.ref h0, .int p0, .long p1, .long p2] (n := 6) (Nat.le_of_ble_eq_true rfl)
  rw [lg_entry_eq]
  generalize (lg_sl [.ref h0, .int p0, .long p1, .long p2] ++ List.replicate (6 - (lg_sl [.ref h0, .int p0, .long p1, .long p2]).length) Slot.unset).toArray = ls at hl ⊢
  have hl : lv_has ls 6 [(0, .ref h0), (1, .int p0), (2, .long p1), (4, .long p2)] := hl
  have hP : va_P (dC, dI) vwCl [(h0, .inr (10, xF hm h1 h2 h3 0 0 1000)), (h1, .inl (c1, 24, .inr (.inr (.inr (.inr (f1))))))] H := hP
  refine lv_iload_n hx hb dX11_iterate_0 rfl (lv_at hl 1 rfl) ?_
  have hPc := hP.sub (ws' := []) [] rfl
  have hDc : va_D (fun _ => True) ([] : va_W) := nd_0
  have hKc := hK.sub (tys' := []) [] rfl
  have hFc := va_free (wc := []) hD hS hA [] rfl
  refine vx_callv (vx_runS (As := [.int p0]) (rest := []) ⟨hx, hb, hml, hown, hts⟩ (c_X11_checkOp l hl0 dC dI p0 H.size) (va_cwS 1 hts gX11_iterate_X11_checkOp rfl rfl rfl (by decide +kernel) ⟨Nat.le_of_ble_eq_true rfl, Nat.le_of_ble_eq_true rfl⟩) ⟨fun a U g mk q => by obtain ⟨q0, q1, qP, qK, qD, qG, qZ⟩ := q; exact ⟨q0, q1, qP, va_K.moved (u := U) (U := U.calling g mk a) (Vm.Alike.refl U.vm) qK, qD, Gw.same (u := U) (U := U.calling g mk a) rfl qG, Gz.moved (u := U) (U := U.calling g mk a) (Vm.Alike.refl U.vm) qZ⟩, fun U hU hW => ⟨rfl, by rw [hU], by rw [hU]; exact hPc, va_K.moved hW.alike hKc, nd_0, Gw.warm hW hG, Gz.step hZ hS hFc hU hW.alike⟩⟩ rfl rfl hl.1 rfl (lv_room (Nat.le_of_ble_eq_true rfl)) dX11_iterate_1 ⟨Nat.le_of_ble_eq_true rfl, Nat.le_of_ble_eq_true rfl⟩) hS (fun q _ h => hFc q h) hFc (fun q _ h => hFc q h) (fun E ce q9 u9 t H1 locs ht hvm hpx hBX hz1 hk1 hS hce hcv hcl => ?_) (fun u_2 t H1 locs ht hvm hw hB hz1 hk1 hS => ?_)
  · exact vx_widen (k := 4) (n := 900) (Nat.le_of_ble_eq_true rfl) (Nat.le_of_ble_eq_true rfl) (vx_out (fun x h => (htab x h).elim) hlocks hce hcv hcl (fun t ht hvm => ⟨(), hpx, hBX, hS.F ht⟩) hS.2.2 (Nat.le_refl _) (Nat.le_refl _))
  · have hP := nd_keep hP hk1
    generalize H1 = H at hP hS ⊢
    have hP : va_P (dC, dI) vwCl [(h0, .inr (10, xF hm h1 h2 h3 0 0 1000)), (h1, .inl (c1, 24, .inr (.inr (.inr (.inr (f1))))))] H := hP
    have hD : va_D A [(h0, .inr (10, xF hm h1 h2 h3 0 0 1000)), (h1, .inl (c1, 24, .inr (.inr (.inr (.inr (f1))))))] := hD
    have hw1 := hw
    refine W.widen (k := 1) (n := 6) (by decide +kernel) (by decide +kernel) ?_
    refine lv_aload_n hx hb dX11_iterate_4 rfl (lv_at hl 0 rfl) ?_
    have hPc := hP.sub (ws' := [(h0, .inr (10, xF hm h1 h2 h3 0 0 1000))]) [0] rfl
    have hDc : va_D (fun _ => True) ([] : va_W) := nd_0
    have hKc := hK.sub (tys' := []) [] rfl
    have hFc := va_free (wc := []) hD hS hA [] rfl
    refine va_callv (va_runV (As := []) (rest := []) ⟨hx, hb, hml, hown, hts⟩ (c_X11_checkRoom l dC dI h0 hm h1 h2 h3 H.size) (cwV 0 hts gX11_iterate_X11_checkRoom rfl rfl rfl (by decide +kernel) ⟨Nat.le_of_ble_eq_true rfl, Nat.le_of_ble_eq_true rfl⟩) ⟨fun a U g mk q => by obtain ⟨q0, q1, qP, qK, qD⟩ := q; exact ⟨q0, q1, qP, va_K.moved (u := U) (U := U.calling g mk a) (Vm.Alike.refl U.vm) qK, qD⟩, va_recv hKc hPc (ci := 10) (q0 := 0) rfl rfl, fun U hU hW => ⟨rfl, by rw [hU], by rw [hU]; exact hPc, va_K.moved hW.alike hKc, nd_0⟩⟩ rfl rfl hl.1 rfl (lv_room (Nat.le_of_ble_eq_true rfl)) dX11_iterate_5 ⟨Nat.le_of_ble_eq_true rfl, Nat.le_of_ble_eq_true rfl⟩) hS (fun q _ h => hFc q h) hFc (fun u_4 t H1 locs ht hvm hw hB hz1 hk1 hS => ?_)
    have hP := nd_keep hP hk1
    generalize H1 = H at hP hS ⊢
    have hP : va_P (dC, dI) vwCl [(h0, .inr (10, xF hm h1 h2 h3 0 0 1000)), (h1, .inl (c1, 24, .inr (.inr (.inr (.inr (f1))))))] H := hP
    have hD : va_D A [(h0, .inr (10, xF hm h1 h2 h3 0 0 1000)), (h1, .inl (c1, 24, .inr (.inr (.inr (.inr (f1))))))] := hD
    refine W.widen (k := 1) (n := 6) (by decide +kernel) (by decide +kernel) ?_
    refine lv_aload_n hx hb dX11_iterate_8 rfl (lv_at hl 0 rfl) ?_
    refine va_new (ci := 0) (fs := [.null, .null, .null, .int 0, .int 0, .null, .int 0, .long 0, .long 0]) (C := RX0) (T := TX0) (N := 9) hx hb hts (by decide +kernel) tyX0 tyX0_ok hown (hts (.classLink RX11 82 RX0) (by decide +kernel)) (hts (.instantiable RX0 9) (by decide +kernel)) (hts (.initialized RX0) (by decide +kernel)) hK hP hD hS hA rfl (fun j hj => by rcases (show j = 0 ∨ j = 1 ∨ j = 2 ∨ j = 3 ∨ j = 4 ∨ j = 5 ∨ j = 6 ∨ j = 7 ∨ j = 8 by omega) with rfl | rfl | rfl | rfl | rfl | rfl | rfl | rfl | rfl <;> rfl) (by decide +kernel) (by decide +kernel) dX11_iterate_9 (fun q_5 H hP hD hS => ?_)
    have hP : va_P (dC, dI) vwCl [(h0, .inr (10, xF hm h1 h2 h3 0 0 1000)), (h1, .inl (c1, 24, .inr (.inr (.inr (.inr (f1)))))), (q_5, .inr (0, [.null, .null, .null, .int 0, .int 0, .null, .int 0, .long 0, .long 0]))] H := hP
    have hD : va_D A [(h0, .inr (10, xF hm h1 h2 h3 0 0 1000)), (h1, .inl (c1, 24, .inr (.inr (.inr (.inr (f1)))))), (q_5, .inr (0, [.null, .null, .null, .int 0, .int 0, .null, .int 0, .long 0, .long 0]))] := hD
    refine W.widen (k := 2) (n := 15) (by decide +kernel) (by decide +kernel) ?_
    refine lv_dup hx hb dX11_iterate_12 rfl ?_
    refine lv_aload_n hx hb dX11_iterate_13 rfl (lv_at hl 0 rfl) ?_
    refine va_get (D := (dC, dI)) (ci := 10) (v := .ref hm) (C := RX11) (T := TX11) (N := 9) hx hb hts (by decide +kernel) hown hK hP 0 rfl rfl 0 (by decide) (hts (.fieldLink RX11 12 "NeededLists" "meter" "LNeededLists$Meter;") (by decide +kernel)) (fun _ h9 => h9) rfl dX11_iterate_14 ?_
    refine lv_null hx hb dX11_iterate_17 ?_
    refine lv_iload_n hx hb dX11_iterate_18 rfl (lv_at hl 1 rfl) ?_
    refine lv_lload_n hx hb dX11_iterate_19 rfl (lv_at hl 2 rfl) ?_
    refine lv_lload hx hb dX11_iterate_20 (lv_at hl 3 rfl) ?_
    have hPc := hP.sub (ws' := [(q_5, .inr (0, [.null, .null, .null, .int 0, .int 0, .null, .int 0, .long 0, .long 0]))]) [2] rfl
    have hDc := hD.sub (ws' := [(q_5, .inr (0, [.null, .null, .null, .int 0, .int 0, .null, .int 0, .long 0, .long 0]))]) [2] (by decide) rfl
    have hKc := hK.sub (tys' := []) [] rfl
    have hFc := va_free (wc := [(q_5, .inr (0, [.null, .null, .null, .int 0, .int 0, .null, .int 0, .long 0, .long 0]))]) hD hS hA [2] rfl
    refine va_callv (va_runI (As := [.ref hm, .null, .int p0, .long p1, .long p2]) (rest := [.ref q_5, .ref h0]) ⟨hx, hb, hml, hown, hts⟩ (c_X0_init l dC dI q_5 hm p0 p1 p2 H.size) (cwI 5 hts gX11_iterate_X0_init rfl rfl rfl (hts (.initialized RX0) (by decide +kernel)) (hts (.methodLink RX11 84 yX0_init) (by decide +kernel)) (hts (.instanceMethod yX0_init) (by decide +kernel)) rfl (by decide +kernel) ⟨Nat.le_of_ble_eq_true rfl, Nat.le_of_ble_eq_true rfl⟩) ⟨fun a U g mk q => by obtain ⟨q0, q1, qP, qK, qD⟩ := q; exact ⟨q0, q1, qP, va_K.moved (u := U) (U := U.calling g mk a) (Vm.Alike.refl U.vm) qK, qD⟩, fun U hU hW => ⟨rfl, by rw [hU], by rw [hU]; exact hPc, va_K.moved hW.alike hKc, hDc.weaken (fun _ _ _ _ => trivial)⟩⟩ rfl rfl hl.1 rfl (lv_room (Nat.le_of_ble_eq_true rfl)) dX11_iterate_22 ⟨Nat.le_of_ble_eq_true rfl, Nat.le_of_ble_eq_true rfl⟩) hS (fun q _ h => hFc q h) hFc (fun u_7 t H1 locs ht hvm hw hB hz1 hk1 hS => ?_)
    obtain ⟨hP1, hK1, hD1⟩ := hB
    rw [ht] at hP1
    have hK1 := va_K.moved hvm.symm hK1
    have hK := hK.app hK1
    obtain ⟨hP, hD⟩ := va_join (wr := [(h0, .inr (10, xF hm h1 h2 h3 0 0 1000)), (h1, .inl (c1, 24, .inr (.inr (.inr (.inr (f1))))))]) (w1 := [(q_5, .inr (0, [.ref hm, .ref u_7.1, .ref u_7.2, .int 0, .int 0, .null, .int p0, .long p1, .long p2]))]) hP hD [2] [0, 1] rfl rfl (by decide) (by decide) hk1 hFc hP1 hD1
    generalize H1 = H at hP hS ⊢
    have hP : va_P (dC, dI) vwCl [(h0, .inr (10, xF hm h1 h2 h3 0 0 1000)), (h1, .inl (c1, 24, .inr (.inr (.inr (.inr (f1)))))), (q_5, .inr (0, [.ref hm, .ref u_7.1, .ref u_7.2, .int 0, .int 0, .null, .int p0, .long p1, .long p2]))] H := hP
    have hD : va_D A [(h0, .inr (10, xF hm h1 h2 h3 0 0 1000)), (h1, .inl (c1, 24, .inr (.inr (.inr (.inr (f1)))))), (q_5, .inr (0, [.ref hm, .ref u_7.1, .ref u_7.2, .int 0, .int 0, .null, .int p0, .long p1, .long p2]))] := hD
    have hK : va_K (dC, dI) vwCl [(c1, .object RX5)] s := hK
    refine W.widen (k := 4) (n := 815) (by decide +kernel) (by decide +kernel) ?_
    have hPc := hP.sub (ws' := [(h0, .inr (10, xF hm h1 h2 h3 0 0 1000)), (h1, .inl (c1, 24, .inr (.inr (.inr (.inr (f1)))))), (q_5, .inr (0, [.ref hm, .ref u_7.1, .ref u_7.2, .int 0, .int 0, .null, .int p0, .long p1, .long p2]))]) [0, 1, 2] rfl
    have hDc := hD.sub (ws' := [(h0, .inr (10, xF hm h1 h2 h3 0 0 1000)), (h1, .inl (c1, 24, .inr (.inr (.inr (.inr (f1)))))), (q_5, .inr (0, [.ref hm, .ref u_7.1, .ref u_7.2, .int 0, .int 0, .null, .int p0, .long p1, .long p2]))]) [0, 1, 2] (by decide) rfl
    have hKc := hK.sub (tys' := [(c1, .object RX5)]) [0] rfl
    have hFc := va_free (wc := [(h0, .inr (10, xF hm h1 h2 h3 0 0 1000)), (h1, .inl (c1, 24, .inr (.inr (.inr (.inr (f1)))))), (q_5, .inr (0, [.ref hm, .ref u_7.1, .ref u_7.2, .int 0, .int 0, .null, .int p0, .long p1, .long p2]))]) hD hS hA [0, 1, 2] rfl
    refine va_calli (va_runV (As := [.ref q_5]) (rest := []) ⟨hx, hb, hml, hown, hts⟩ (c_X11_addList_C l hl0 dC dI h0 hm h1 h2 h3 c1 f1 q_5 ([.ref hm, .ref u_7.1, .ref u_7.2, .int 0, .int 0, .null, .int p0, .long p1, .long p2]) H.size) (cwV 1 hts gX11_iterate_X11_addList rfl rfl rfl (by decide +kernel) ⟨Nat.le_of_ble_eq_true rfl, Nat.le_of_ble_eq_true rfl⟩) ⟨fun a U g mk q => by obtain ⟨q0, q1, qP, qK, qD, qG, qZ⟩ := q; exact ⟨q0, q1, qP, va_K.moved (u := U) (U := U.calling g mk a) (Vm.Alike.refl U.vm) qK, qD, Gw.same (u := U) (U := U.calling g mk a) rfl qG, Gz.moved (u := U) (U := U.calling g mk a) (Vm.Alike.refl U.vm) qZ⟩, va_recv hKc hPc (ci := 10) (q0 := 0) rfl rfl, fun U hU hW => ⟨rfl, by rw [hU], by rw [hU]; exact hPc, va_K.moved hW.alike hKc, hDc.weaken (fun _ _ _ _ => trivial), Gw.warm hW hG, Gz.step hZ hS hFc hU hW.alike⟩⟩ rfl rfl hl.1 rfl (lv_room (Nat.le_of_ble_eq_true rfl)) dX11_iterate_25 ⟨Nat.le_of_ble_eq_true rfl, Nat.le_of_ble_eq_true rfl⟩) hS (fun q _ h => hFc q h) hFc (fun r_8 u_9 t H1 locs ht hvm hw hB hz1 hk1 hS => ?_)
    obtain ⟨hP, hD⟩ := nd_drop (wr := []) hP hD [0, 1, 2] [] rfl rfl (by decide) (by decide) hk1 hFc
    generalize H1 = H at hP hS ⊢
    have hP : va_P (dC, dI) vwCl [] H := hP
    have hD : va_D A [] := hD
    refine W.widen (k := 4) (n := 815) (by decide +kernel) (by decide +kernel) ?_
    obtain rfl : r_8 = 0 := hw
    refine vx_ret ?_
    refine W.widen (k := 4) (n := 900) (by decide +kernel) (by decide +kernel) ?_
    exact W.iret (v := 0) hx hb hr (fun t ht hW => ⟨⟨0, (), rfl, ⟨rfl, hw1⟩, trivial⟩, hS.F ht⟩) hS.2.2 dX11_iterate_28
