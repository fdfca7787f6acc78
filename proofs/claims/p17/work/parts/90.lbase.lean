/-- the law's long[1] -/
abbrev oW (co : ClassId) (ho : Nat) (f : Nat → Int64) : va_W := [(ho, .inl (co, 1, .inr (.inl f)))]
section FR
variable {A A0 : Nat → Prop} {D : va_G} {cl : List vw_C} {wa wb wr wc w1 : va_W} {H H0 H1 : Heap} {locs : List Loc}
theorem fr_P1 (h : va_P D cl (wa ++ wb) H) : va_P D cl wa H := fun k q hk => by
  obtain ⟨j, hj⟩ := List.getElem?_of_mem (List.mem_append_left wb (List.mem_of_getElem? hk))
  exact h j q hj
theorem fr_P2 (h : va_P D cl (wa ++ wb) H) : va_P D cl wb H := fun k q hk => by
  obtain ⟨j, hj⟩ := List.getElem?_of_mem (List.mem_append_right wa (List.mem_of_getElem? hk))
  exact h j q hj
theorem fr_at1 {k : Nat} {q : Nat × va_E} (hk : wa[k]? = some q) : (wa ++ wb)[k]? = some q := by
  rw [List.getElem?_append_left (List.getElem?_eq_some_iff.mp hk).1]; exact hk
theorem fr_at2 {k : Nat} {q : Nat × va_E} (hk : wb[k]? = some q) : (wa ++ wb)[wa.length + k]? = some q := by
  rw [List.getElem?_append_right (Nat.le_add_right _ _), Nat.add_sub_cancel_left]; exact hk
theorem fr_D1 (h : va_D A (wa ++ wb)) : va_D A wa := ⟨fun i j p q hi hj e => h.1 i j p q (fr_at1 hi) (fr_at1 hj) e, fun k q hk => h.2 k q (fr_at1 hk)⟩
theorem fr_D2 (h : va_D A (wa ++ wb)) : va_D A wb := ⟨fun i j p q hi hj e => Nat.add_left_cancel (h.1 _ _ p q (fr_at2 hi) (fr_at2 hj) e), fun k q hk => h.2 _ q (fr_at2 hk)⟩
theorem fr_ap (h : va_D A (wa ++ wb)) : ∀ (i j : Nat) (p q : Nat × va_E), wa[i]? = some p → wb[j]? = some q → p.1 ≠ q.1 := fun i j p q hi hj e => by
  have hl := (List.getElem?_eq_some_iff.mp hi).1
  have := h.1 i (wa.length + j) p q (fr_at1 hi) (fr_at2 hj) e
  omega
theorem fr_Ps (h : va_P D cl (wa ++ wb) H) : va_P D cl (wb ++ wa) H := va_P.app (fr_P2 h) (fr_P1 h)
theorem fr_Ds (h : va_D A (wa ++ wb)) : va_D A (wb ++ wa) := va_D.app (fr_D2 h) (fr_D1 h) (fun i j p q hi hj e => fr_ap h j i q p hj hi e.symm)
theorem fr_free (hD : va_D A wc) (hS : va_S A H0 H locs) (hA : ∀ q : Nat, H0.size ≤ q → A q) : ∀ q, va_A wc H.size q → A q := fun q h => h.elim (fun ⟨k, e, h1⟩ => hD.2 k (q, e) h1) (fun h1 => hA q (Nat.le_trans hS.1 h1))
theorem fr_join (hP : va_P D cl (wr ++ wc) H) (hD : va_D A0 (wr ++ wc)) (hk : ∀ q : Nat, q < H.size → ¬ va_A wc H.size q → H1[q]? = H[q]?) (hF : ∀ q, va_A wc H.size q → A0 q) (hP1 : va_P D cl w1 H1) (hD1 : va_D (va_A wc H.size) w1) : va_P D cl (wr ++ w1) H1 ∧ va_D A0 (wr ++ w1) := by
  have apart : ∀ (k : Nat) (q : Nat × va_E), wr[k]? = some q → q.1 < H.size ∧ ¬ va_A wc H.size q.1 := fun k q hq => by
    have hl := (fr_P1 hP k q hq).lt
    refine ⟨hl, fun h => ?_⟩
    rcases h with ⟨k2, e, h⟩ | h
    · exact fr_ap hD k k2 q (q.1, e) hq h rfl
    · omega
  refine ⟨va_P.app (fun k q hq => (fr_P1 hP k q hq).kept (hk q.1 (apart k q hq).1 (apart k q hq).2)) hP1, va_D.app (fr_D1 hD) (hD1.weaken (fun k q _ h => hF q.1 h)) (fun i j x y hx hy hxy => (apart i x hx).2 (by rw [hxy]; exact hD1.2 j y hy))⟩
theorem fr_no {sz q : Nat} (hq : q < sz) (h : va_A [] sz q) : A q := by
  rcases h with ⟨k2, e, h2⟩ | h2
  · simp at h2
  · exact absurd hq (Nat.not_lt.mpr h2)
end FR
def Gn (U : State) : Prop := va_Nc "java/lang/IllegalArgumentException" "java/lang/IndexOutOfBoundsException" U ∧ va_Nc "java/lang/UnsupportedOperationException" "java/lang/IndexOutOfBoundsException" U ∧ va_Nc "java/lang/UnsupportedOperationException" "java/lang/IllegalArgumentException" U
theorem Gn.moved {u U : State} (hvm : u.vm.Alike U.vm) (h : Gn u) : Gn U := ⟨h.1.moved hvm, h.2.1.moved hvm, h.2.2.moved hvm⟩
abbrev LSt : Type := XSt × (Nat → Int64)
abbrev LTy : Type := Sh → (Nat → Nat → Int32) → (Nat → Nat → Int32) → (Nat → Nat → Int64) → (Nat → Int64) → Prop
def lI (Q : Int32 → LTy) : Int32 → LSt → Prop := fun r u => Q r u.1.1 u.1.2.1 u.1.2.2.1 u.1.2.2.2 u.2
abbrev lPre (dC : Nat → ClassId) (dI : Nat → Nat → Nat) (sh : Sh) (ci : Nat → Nat → Int32) (ai : Nat → Nat → Int32) (al : Nat → Nat → Int64) (co : ClassId) (ho : Nat) (f : Nat → Int64) (sz : Nat) (U : State) : Prop := U.heap.size = sz ∧ va_P (dC, dI) vwCl (oW co ho f ++ cW sh ci ai al) U.heap ∧ cK dC dI sh U ∧ va_K (dC, dI) vwCl [(co, .long)] U ∧ va_D (fun _ => True) (oW co ho f ++ cW sh ci ai al) ∧ Gc U ∧ Gn U ∧ Gz (va_A (oW co ho f ++ cW sh ci ai al) sz) U U.heap
abbrev lB (dC : Nat → ClassId) (dI : Nat → Nat → Nat) (co : ClassId) (ho : Nat) (A : Nat → Prop) (u : LSt) (t : State) : Prop := va_P (dC, dI) vwCl (oW co ho u.2 ++ cW u.1.1 u.1.2.1 u.1.2.2.1 u.1.2.2.2) t.heap ∧ cK dC dI u.1.1 t ∧ va_D A (oW co ho u.2 ++ cW u.1.1 u.1.2.1 u.1.2.2.1 u.1.2.2.2)
theorem g_Vb {B W : List Cond} {c1 : Cond} {own : String} {idx : Nat} {C : String} {y : MethodName} (hW : GoodIn B W) (h1 : GoodIn B [Cond.methodLink own idx y, Cond.instanceMethod y, Cond.selects C y y, Cond.initialized C, c1]) : GoodIn B (wsV own idx C y (c1 :: W)) := fun w hw => by
  unfold wsV at hw
  simp only [List.cons_append, List.nil_append, List.mem_cons] at hw
  rcases hw with e | e | e | e | e | hw
  · exact h1 w (by simp [e])
  · exact h1 w (by simp [e])
  · exact h1 w (by simp [e])
  · exact h1 w (by simp [e])
  · exact h1 w (by simp [e])
  · exact hW w hw
theorem g_Sb {B W : List Cond} {c1 : Cond} {own : String} {idx : Nat} {y : MethodName} (hW : GoodIn B W) (h1 : GoodIn B [Cond.methodLink own idx y, Cond.static y, Cond.initialized y.cls, c1]) : GoodIn B (va_wsS own idx y (c1 :: W)) := fun w hw => by
  unfold va_wsS at hw
  simp only [List.cons_append, List.nil_append, List.mem_cons] at hw
  rcases hw with e | e | e | e | hw
  · exact h1 w (by simp [e])
  · exact h1 w (by simp [e])
  · exact h1 w (by simp [e])
  · exact h1 w (by simp [e])
  · exact hW w hw
section LB
variable {p : Program} {l : Launch} {e : Env} {R : Room} {s : State} {m : MethodId} {args : Array Value} {below : List Frame} {meth : Method} {c : Code} {H : Heap} {locs : List Loc} {cells slots : Nat} {QQ : State → Prop}
variable {cc : ByteArray} {pc : Nat} {ls : Array Slot} {rest : List Value} {A : Nat → Prop} {H0 : Heap} {dC : Nat → ClassId} {dI : Nat → Nat → Nat} {sh : Sh} {ci : Nat → Nat → Int32} {ai : Nat → Nat → Int32} {al : Nat → Nat → Int64} {co : ClassId} {ho : Nat} {f : Nat → Int64}
variable {y : MethodName} {bytes : ByteArray} {maxL nL n index mc ms : Nat} {ret : Option FieldType} {ws : List Cond} {rm : Room} {Ts : List Cond} {As st : List Value} {own : String} {wr : va_W}
variable {a : Nat → Nat} {ca : Nat → ClassId} {g0 : Nat} {v : Nat → Int32} {w : Nat → Int64} {fi : Nat → Nat → Int32} {fl : Nat → Nat → Int64}
theorem l_xi {Q : Int32 → Sh → (Nat → Nat → Int32) → (Nat → Nat → Int32) → (Nat → Nat → Int64) → Prop} {X : String → Prop} {av : Array Value} (hr : vx_Run p l e R s m args below meth c H locs cells slots mc ms (F0 m pc ls st) rest (va_Qi (S := XSt) (xI Q) (xB dC dI (va_A (cW sh ci ai al) H.size)) (va_A (cW sh ci ai al) H.size) av) (XC X H.size) (va_A (cW sh ci ai al) H.size)) (hP : va_P (dC, dI) vwCl (wr ++ cW sh ci ai al) H) (hD : va_D A (wr ++ cW sh ci ai al)) (hS : va_S A H0 H locs) (hA : ∀ q : Nat, H0.size ≤ q → A q)
    (kx : ∀ (E : String) (ce : Cell) (q9 : Addr) (H1 : Heap) (locs1 : List Loc), X E → va_P (dC, dI) vwCl (wr ++ cW sh ci ai al) H1 → va_S A H0 H1 locs1 → H1[q9]? = some ce → ce.vm = .none → s.vm.findClass E = some ce.cls → vx_W p l e R s m args below meth c H1 locs1 (cells + mc) (slots + ms) QQ (F0 m pc ls rest) q9)
    (kk : ∀ (r : Int32) (sh1 : Sh) (ci' : Nat → Nat → Int32) (ai' : Nat → Nat → Int32) (al' : Nat → Nat → Int64) (H1 : Heap) (locs1 : List Loc), Q r sh1 ci' ai' al' → cK dC dI sh1 s → va_P (dC, dI) vwCl (wr ++ cW sh1 ci' ai' al') H1 → va_D A (wr ++ cW sh1 ci' ai' al') → va_S A H0 H1 locs1 → W p l e R s m args below meth c H1 locs1 (cells + mc) (slots + ms) QQ (F0 m (pc + 3) ls (.int r :: rest))) : W p l e R s m args below meth c H locs cells slots QQ (F0 m pc ls st) := by
  have hFc := fr_free (fr_D2 hD) hS hA
  refine vx_calli hr hS (fun q _ h => hFc q h) hFc (fun q hq h => fr_no hq h) (fun E ce q9 u9 t H1 locs ht hvm hpx hBX hz1 hk1 hS hce hcv hcl => kx E ce q9 H1 locs hBX (nd_keep hP hk1) hS hce hcv hcl) (fun r u t H1 locs ht hvm hw hB hz1 hk1 hS => ?_)
  obtain ⟨hP1, hK1, hD1⟩ := hB
  rw [ht] at hP1
  obtain ⟨hP2, hD2⟩ := fr_join hP hD hk1 hFc hP1 hD1
  exact kk r u.1 u.2.1 u.2.2.1 u.2.2.2 H1 locs hw (cK.moved hvm.symm hK1) hP2 hD2 hS
theorem l_xl {Q : Int64 → Sh → (Nat → Nat → Int32) → (Nat → Nat → Int32) → (Nat → Nat → Int64) → Prop} {X : String → Prop} {av : Array Value} (hr : vx_Run p l e R s m args below meth c H locs cells slots mc ms (F0 m pc ls st) rest (va_Ql (S := XSt) (xJ Q) (xB dC dI (va_A (cW sh ci ai al) H.size)) (va_A (cW sh ci ai al) H.size) av) (XC X H.size) (va_A (cW sh ci ai al) H.size)) (hP : va_P (dC, dI) vwCl (wr ++ cW sh ci ai al) H) (hD : va_D A (wr ++ cW sh ci ai al)) (hS : va_S A H0 H locs) (hA : ∀ q : Nat, H0.size ≤ q → A q)
    (kx : ∀ (E : String) (ce : Cell) (q9 : Addr) (H1 : Heap) (locs1 : List Loc), X E → va_P (dC, dI) vwCl (wr ++ cW sh ci ai al) H1 → va_S A H0 H1 locs1 → H1[q9]? = some ce → ce.vm = .none → s.vm.findClass E = some ce.cls → vx_W p l e R s m args below meth c H1 locs1 (cells + mc) (slots + ms) QQ (F0 m pc ls rest) q9)
    (kk : ∀ (r : Int64) (sh1 : Sh) (ci' : Nat → Nat → Int32) (ai' : Nat → Nat → Int32) (al' : Nat → Nat → Int64) (H1 : Heap) (locs1 : List Loc), Q r sh1 ci' ai' al' → cK dC dI sh1 s → va_P (dC, dI) vwCl (wr ++ cW sh1 ci' ai' al') H1 → va_D A (wr ++ cW sh1 ci' ai' al') → va_S A H0 H1 locs1 → W p l e R s m args below meth c H1 locs1 (cells + mc) (slots + ms) QQ (F0 m (pc + 3) ls (.long r :: rest))) : W p l e R s m args below meth c H locs cells slots QQ (F0 m pc ls st) := by
  have hFc := fr_free (fr_D2 hD) hS hA
  refine vx_calll hr hS (fun q _ h => hFc q h) hFc (fun q hq h => fr_no hq h) (fun E ce q9 u9 t H1 locs ht hvm hpx hBX hz1 hk1 hS hce hcv hcl => kx E ce q9 H1 locs hBX (nd_keep hP hk1) hS hce hcv hcl) (fun r u t H1 locs ht hvm hw hB hz1 hk1 hS => ?_)
  obtain ⟨hP1, hK1, hD1⟩ := hB
  rw [ht] at hP1
  obtain ⟨hP2, hD2⟩ := fr_join hP hD hk1 hFc hP1 hD1
  exact kk r u.1 u.2.1 u.2.2.1 u.2.2.2 H1 locs hw (cK.moved hvm.symm hK1) hP2 hD2 hS
/-- a wrapper's call, out of the law -/
theorem l_blind {av : List Value} {sz : Nat} : FrameBlind (va_Pc av (lPre dC dI sh ci ai al co ho f sz)) := fun a U g mk q => by obtain ⟨q0, q1, qP, qK, qO, qD, qG, qN, qZ⟩ := q; exact ⟨q0, q1, qP, cK.moved (u := U) (U := U.calling g mk a) (Vm.Alike.refl U.vm) qK, va_K.moved (u := U) (U := U.calling g mk a) (Vm.Alike.refl U.vm) qO, qD, Gc.same (u := U) (U := U.calling g mk a) rfl qG, Gn.moved (u := U) (U := U.calling g mk a) (Vm.Alike.refl U.vm) qN, Gz.moved (u := U) (U := U.calling g mk a) (Vm.Alike.refl U.vm) qZ⟩
theorem l_preS (hK : cK dC dI sh s) (hO : va_K (dC, dI) vwCl [(co, .long)] s) (hP : va_P (dC, dI) vwCl (oW co ho f ++ cW sh ci ai al) H) (hD : va_D A (oW co ho f ++ cW sh ci ai al)) (hA : ∀ q : Nat, s.heap.size ≤ q → A q) (hS0 : va_S A s.heap H locs) (hG : Gc s) (hN : Gn s) (hZ : Gz A s s.heap) : PreS s H (va_Pc As (lPre dC dI sh ci ai al co ho f H.size)) As :=
  ⟨l_blind, fun U hU hW => ⟨rfl, by rw [hU], by rw [hU]; exact hP, cK.moved hW.alike hK, va_K.moved hW.alike hO, hD.weaken (fun _ _ _ _ => trivial), Gc.warm hW hG, Gn.moved hW.alike hN, Gz.step hZ hS0 (fr_free hD hS0 hA) hU hW.alike⟩⟩
theorem l_end {Q : Int32 → LTy} {av : Array Value} (hr : va_Run p l e R s m args below meth c H locs cells slots mc ms (F0 m pc ls st) rest (va_Qi (S := LSt) (lI Q) (lB dC dI co ho (va_A (oW co ho f ++ cW sh ci ai al) H.size)) (va_A (oW co ho f ++ cW sh ci ai al) H.size) av) (va_A (oW co ho f ++ cW sh ci ai al) H.size)) (hP : va_P (dC, dI) vwCl (wr ++ (oW co ho f ++ cW sh ci ai al)) H) (hD : va_D A (wr ++ (oW co ho f ++ cW sh ci ai al))) (hS : va_S A H0 H locs) (hA : ∀ q : Nat, H0.size ≤ q → A q)
    (kk : ∀ (r : Int32) (sh1 : Sh) (ci' : Nat → Nat → Int32) (ai' : Nat → Nat → Int32) (al' : Nat → Nat → Int64) (f' : Nat → Int64) (H1 : Heap) (locs1 : List Loc), Q r sh1 ci' ai' al' f' → cK dC dI sh1 s → va_P (dC, dI) vwCl (wr ++ (oW co ho f' ++ cW sh1 ci' ai' al')) H1 → va_D A (wr ++ (oW co ho f' ++ cW sh1 ci' ai' al')) → va_S A H0 H1 locs1 → W p l e R s m args below meth c H1 locs1 (cells + mc) (slots + ms) QQ (F0 m (pc + 3) ls (.int r :: rest))) : W p l e R s m args below meth c H locs cells slots QQ (F0 m pc ls st) := by
  have hFc := fr_free (fr_D2 hD) hS hA
  refine va_calli hr hS (fun q _ h => hFc q h) hFc (fun r u t H1 locs ht hvm hw hB hz1 hk1 hS => ?_)
  obtain ⟨hP1, hK1, hD1⟩ := hB
  rw [ht] at hP1
  obtain ⟨hP2, hD2⟩ := fr_join hP hD hk1 hFc hP1 hD1
  exact kk r u.1.1 u.1.2.1 u.1.2.2.1 u.1.2.2.2 u.2 H1 locs hw (cK.moved hvm.symm hK1) hP2 hD2 hS
/-- the reference's methods, out of the law -/
theorem lm_calli {Q : Int32 → (Nat → Int32) → (Nat → Int64) → (Nat → Nat → Int32) → (Nat → Nat → Int64) → Prop} (hM : ∀ sz : Nat, Met l y ws rm (va_Pc (.ref g0 :: As) (mPre dC dI a ca g0 v w fi fl sz)) (va_Qi (S := MSt) (pI Q) (mB dC dI a ca g0 (va_A (mW a ca g0 v w fi fl) sz)) (va_A (mW a ca g0 v w fi fl) sz)) 0 0 (va_A (mW a ca g0 v w fi fl) sz)) (S : CallFix p m c cc nL s args Ts own) (cw : CallW R s args own RX12 index y bytes maxL ret ws rm 0 0 n) (hn : As.length = n) (hsize : ls.size = nL) (hst : st = As.reverse ++ .ref g0 :: rest) (hK : va_K (dC, dI) vwCl (mT ca) s) (hP : va_P (dC, dI) vwCl (mW a ca g0 v w fi fl ++ wr) H) (hD : va_D A (mW a ca g0 v w fi fl ++ wr)) (hS : va_S A H0 H locs) (hA : ∀ q : Nat, H0.size ≤ q → A q) (hW : (rest.map fun v => v.category).sum ≤ 8) (hf : cells ≤ R.cells ∧ slots ≤ R.slots) (hdg : decode cc pc = .ok (.invokevirtual index, 3))
    (kk : ∀ (r : Int32) (v' : Nat → Int32) (w' : Nat → Int64) (fi' : Nat → Nat → Int32) (fl' : Nat → Nat → Int64) (H1 : Heap) (locs1 : List Loc), Q r v' w' fi' fl' → va_P (dC, dI) vwCl (mW a ca g0 v' w' fi' fl' ++ wr) H1 → va_D A (mW a ca g0 v' w' fi' fl' ++ wr) → va_S A H0 H1 locs1 → W p l e R s m args below meth c H1 locs1 cells slots QQ (F0 m (pc + 3) ls (.int r :: rest))) : W p l e R s m args below meth c H locs cells slots QQ (F0 m pc ls st) := by
  have hFc := fr_free (fr_D1 hD) hS hA
  refine va_calli (va_runV (As := As) (rest := rest) S (hM H.size) cw ⟨m_blind, va_recv hK (fr_P1 hP) (ci := 11) (q0 := 0) rfl rfl, fun U hU hW => ⟨rfl, by rw [hU], by rw [hU]; exact fr_P1 hP, va_K.moved hW.alike hK, (fr_D1 hD).weaken (fun _ _ _ _ => trivial)⟩⟩ rfl hn hsize hst (lv_room hW) hdg hf) hS (fun q _ h => hFc q h) hFc (fun r u t H1 locs ht hvm hw hB hz1 hk1 hS => ?_)
  obtain ⟨hP1, hK1, hD1⟩ := hB
  rw [ht] at hP1
  obtain ⟨hP2, hD2⟩ := fr_join (fr_Ps hP) (fr_Ds hD) hk1 hFc hP1 hD1
  exact kk r u.1 u.2.1 u.2.2.1 u.2.2.2 H1 locs hw (fr_Ps hP2) (fr_Ds hD2) hS
theorem lm_calll {Q : Int64 → (Nat → Int32) → (Nat → Int64) → (Nat → Nat → Int32) → (Nat → Nat → Int64) → Prop} (hM : ∀ sz : Nat, Met l y ws rm (va_Pc (.ref g0 :: As) (mPre dC dI a ca g0 v w fi fl sz)) (va_Ql (S := MSt) (pL Q) (mB dC dI a ca g0 (va_A (mW a ca g0 v w fi fl) sz)) (va_A (mW a ca g0 v w fi fl) sz)) 0 0 (va_A (mW a ca g0 v w fi fl) sz)) (S : CallFix p m c cc nL s args Ts own) (cw : CallW R s args own RX12 index y bytes maxL ret ws rm 0 0 n) (hn : As.length = n) (hsize : ls.size = nL) (hst : st = As.reverse ++ .ref g0 :: rest) (hK : va_K (dC, dI) vwCl (mT ca) s) (hP : va_P (dC, dI) vwCl (mW a ca g0 v w fi fl ++ wr) H) (hD : va_D A (mW a ca g0 v w fi fl ++ wr)) (hS : va_S A H0 H locs) (hA : ∀ q : Nat, H0.size ≤ q → A q) (hW : (rest.map fun v => v.category).sum ≤ 8) (hf : cells ≤ R.cells ∧ slots ≤ R.slots) (hdg : decode cc pc = .ok (.invokevirtual index, 3))
    (kk : ∀ (r : Int64) (v' : Nat → Int32) (w' : Nat → Int64) (fi' : Nat → Nat → Int32) (fl' : Nat → Nat → Int64) (H1 : Heap) (locs1 : List Loc), Q r v' w' fi' fl' → va_P (dC, dI) vwCl (mW a ca g0 v' w' fi' fl' ++ wr) H1 → va_D A (mW a ca g0 v' w' fi' fl' ++ wr) → va_S A H0 H1 locs1 → W p l e R s m args below meth c H1 locs1 cells slots QQ (F0 m (pc + 3) ls (.long r :: rest))) : W p l e R s m args below meth c H locs cells slots QQ (F0 m pc ls st) := by
  have hFc := fr_free (fr_D1 hD) hS hA
  refine va_calll (va_runV (As := As) (rest := rest) S (hM H.size) cw ⟨m_blind, va_recv hK (fr_P1 hP) (ci := 11) (q0 := 0) rfl rfl, fun U hU hW => ⟨rfl, by rw [hU], by rw [hU]; exact fr_P1 hP, va_K.moved hW.alike hK, (fr_D1 hD).weaken (fun _ _ _ _ => trivial)⟩⟩ rfl hn hsize hst (lv_room hW) hdg hf) hS (fun q _ h => hFc q h) hFc (fun r u t H1 locs ht hvm hw hB hz1 hk1 hS => ?_)
  obtain ⟨hP1, hK1, hD1⟩ := hB
  rw [ht] at hP1
  obtain ⟨hP2, hD2⟩ := fr_join (fr_Ps hP) (fr_Ds hD) hk1 hFc hP1 hD1
  exact kk r u.1 u.2.1 u.2.2.1 u.2.2.2 H1 locs hw (fr_Ps hP2) (fr_Ds hD2) hS
/-- the class's own methods that throw nothing, out of the law -/
theorem lx_calli {Q : Int32 → Sh → (Nat → Nat → Int32) → (Nat → Nat → Int32) → (Nat → Nat → Int64) → Prop} {av : Array Value} {wm : va_W} (hr : va_Run p l e R s m args below meth c H locs cells slots mc ms (F0 m pc ls st) rest (va_Qi (S := XSt) (xI Q) (xB dC dI (va_A (cW sh ci ai al) H.size)) (va_A (cW sh ci ai al) H.size) av) (va_A (cW sh ci ai al) H.size)) (hP : va_P (dC, dI) vwCl (wm ++ (wr ++ cW sh ci ai al)) H) (hD : va_D A (wm ++ (wr ++ cW sh ci ai al))) (hS : va_S A H0 H locs) (hA : ∀ q : Nat, H0.size ≤ q → A q)
    (kk : ∀ (r : Int32) (sh1 : Sh) (ci' : Nat → Nat → Int32) (ai' : Nat → Nat → Int32) (al' : Nat → Nat → Int64) (H1 : Heap) (locs1 : List Loc), Q r sh1 ci' ai' al' → cK dC dI sh1 s → va_P (dC, dI) vwCl (wm ++ (wr ++ cW sh1 ci' ai' al')) H1 → va_D A (wm ++ (wr ++ cW sh1 ci' ai' al')) → va_S A H0 H1 locs1 → W p l e R s m args below meth c H1 locs1 (cells + mc) (slots + ms) QQ (F0 m (pc + 3) ls (.int r :: rest))) : W p l e R s m args below meth c H locs cells slots QQ (F0 m pc ls st) := by
  have hFc := fr_free (fr_D2 (fr_D2 hD)) hS hA
  refine va_calli hr hS (fun q _ h => hFc q h) hFc (fun r u t H1 locs ht hvm hw hB hz1 hk1 hS => ?_)
  obtain ⟨hP1, hK1, hD1⟩ := hB
  rw [ht] at hP1
  rw [← List.append_assoc] at hP hD
  obtain ⟨hP2, hD2⟩ := fr_join hP hD hk1 hFc hP1 hD1
  rw [List.append_assoc] at hP2 hD2
  exact kk r u.1 u.2.1 u.2.2.1 u.2.2.2 H1 locs hw (cK.moved hvm.symm hK1) hP2 hD2 hS
end LB
