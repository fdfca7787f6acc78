section XK
variable {sh : Sh} {rk : Nat → Nat} {ci ai ai' : Nat → Nat → Int32} {al : Nat → Nat → Int64} {q n m K : Nat} {pu p0 p1 p2 hi : Int32} {y1 y2 : Int64} {X : String → Prop}
theorem ok_checkOp {P : Prop} (a : inO p0 8 → P) (b : ¬ inO p0 8 → X "java/lang/IllegalArgumentException") : P_X11_checkOp p0 P X := ⟨fun h => b (fun c => c.1 h), fun h => ⟨fun h2 => a ⟨h, h2⟩, fun h2 => b (fun c => h2 c.2)⟩⟩
theorem ok_checkCond {P : Prop} (a : inO p0 3 → P) (b : ¬ inO p0 3 → X "java/lang/IllegalArgumentException") : P_X11_checkCond p0 P X := ⟨fun h => b (fun c => c.1 h), fun h => ⟨fun h2 => a ⟨h, h2⟩, fun h2 => b (fun c => h2 c.2)⟩⟩
theorem ok_checkLength {P : Prop} (a : inO p0 400 → P) (b : ¬ inO p0 400 → X "java/lang/IllegalArgumentException") : P_X11_checkLength p0 P X := ⟨fun h => b (fun c => c.1 h), fun h => ⟨fun h2 => a ⟨h, h2⟩, fun h2 => b (fun c => h2 c.2)⟩⟩
theorem ok_checkRoom {P : Prop} (H : XI sh rk q ci ai n m pu) (a : n < 24 → P) (b : ¬ n < 24 → X "java/lang/UnsupportedOperationException") : P_X11_checkRoom sh ci ai al q P X := by
  have h24 := H.n24
  refine ⟨H.own, fun h => a ?_, fun h => b (fun hn => h ?_)⟩
  · rcases Nat.lt_or_ge n 24 with e | e
    · exact e
    · rw [H.made, show n = 24 by omega] at h; exact absurd h (by decide)
  · rw [H.made]; exact Int32.not_le.mp (nI_ge (a := n) (b := 24) hn (by decide))
theorem ok_fresh {P : Nat → Sh → Nat → Prop} (H : XI sh rk q ci ai n m pu) (hP : ∀ z t, z ∉ sL sh → (t ∈ sL sh ∧ sK sh t = 5) → Nw sh z K (shO sh z K) ci ai (va_up ci z (fun _ => 0)) ai → P z (shO sh z K) t) : ∀ (z : Nat) (sh5 : Sh), z ∉ sL sh → sh5 = shO sh z K → (q ∈ sL sh5 ∧ sK sh5 q = 10) ∧ ∃ t : Nat, sR sh5 q 0 = some t ∧ (z ∈ sL sh5 ∧ sK sh5 z = K) ∧ P z sh5 t := by
  rintro z _ hz rfl
  have N : Nw sh z K (shO sh z K) ci ai (va_up ci z (fun _ => 0)) ai := Nw.O hz
  obtain ⟨t, t1, t2⟩ := H.met
  obtain ⟨o1, o2, o3, o4, -⟩ := N.2.2.2.1 q H.own.1
  exact ⟨⟨o1, o2.trans H.own.2⟩, t, (congrFun o4 0).trans t1, ⟨N.2.1, N.2.2.1⟩, hP z t hz t2 N⟩
theorem mk_iterate {Q : Int32 → Sh → SCTy} (H : XI sh rk q ci ai n m pu) (hQ : inO p0 8 → n < 24 → KM q n m pu Q) (hA : ¬ inO p0 8 → X "java/lang/IllegalArgumentException") (hU : inO p0 8 → ¬ n < 24 → X "java/lang/UnsupportedOperationException") : P_X11_iterate sh ci ai al q p0 y1 y2 Q X := by
  refine ⟨H.own, ok_checkOp (fun a3 => ok_checkRoom H (fun a4 => ok_fresh H (fun z t hz ht N => ?_)) (hU a3)) (hA)⟩
  exact ok_X0N N (fun sh' ci' ai' al' N' F' W' => Nw.add (by decide) H N' a4 ht F' W' (fun sh2 rk2 ci2 ai2 h2 => hQ a3 a4 _ _ _ _ _ h2))
theorem mk_map {Q : Int32 → Sh → SCTy} (H : XI sh rk q ci ai n m pu) (hQ : inL p0 n → inO p1 8 → n < 24 → KM q n m pu Q) (hI : ¬ inL p0 n → X "java/lang/IndexOutOfBoundsException") (hA : inL p0 n → ¬ inO p1 8 → X "java/lang/IllegalArgumentException") (hU : inL p0 n → inO p1 8 → ¬ n < 24 → X "java/lang/UnsupportedOperationException") : P_X11_map sh ci ai al q p0 p1 y1 Q X := by
  refine ⟨H.own, ok_listOf H (fun a1 w hw => ok_checkOp (fun a3 => ok_checkRoom H (fun a4 => ok_fresh H (fun z t hz ht N => ?_)) (hU a1 a3)) (hA a1)) hI⟩
  exact ok_X1N N hw (fun sh' ci' ai' al' N' F' W' => Nw.add (by decide) H N' a4 ht F' W' (fun sh2 rk2 ci2 ai2 h2 => hQ a1 a3 a4 _ _ _ _ _ h2))
theorem mk_both {Q : Int32 → Sh → SCTy} (H : XI sh rk q ci ai n m pu) (hQ : inL p0 n → inL p1 n → inO p2 8 → n < 24 → KM q n m pu Q) (hI : ¬ (inL p0 n ∧ inL p1 n) → X "java/lang/IndexOutOfBoundsException") (hA : inL p0 n → inL p1 n → ¬ inO p2 8 → X "java/lang/IllegalArgumentException") (hU : inL p0 n → inL p1 n → inO p2 8 → ¬ n < 24 → X "java/lang/UnsupportedOperationException") : P_X11_both sh ci ai al q p0 p1 p2 Q X := by
  refine ⟨H.own, ok_listOf H (fun a1 w hw => ok_listOf H (fun a2 w2 hw2 => ok_checkOp (fun a3 => ok_checkRoom H (fun a4 => ok_fresh H (fun z t hz ht N => ?_)) (hU a1 a2 a3)) (hA a1 a2)) (fun h => hI (fun c => h c.2))) (fun h => hI (fun c => h c.1))⟩
  exact ok_X1 N hw hw2 (fun sh' ci' ai' al' N' F' W' => Nw.add (by decide) H N' a4 ht F' W' (fun sh2 rk2 ci2 ai2 h2 => hQ a1 a2 a3 a4 _ _ _ _ _ h2))
theorem mk_scan {Q : Int32 → Sh → SCTy} (H : XI sh rk q ci ai n m pu) (hQ : inL p0 n → inO p1 8 → n < 24 → KM q n m pu Q) (hI : ¬ inL p0 n → X "java/lang/IndexOutOfBoundsException") (hA : inL p0 n → ¬ inO p1 8 → X "java/lang/IllegalArgumentException") (hU : inL p0 n → inO p1 8 → ¬ n < 24 → X "java/lang/UnsupportedOperationException") : P_X11_scan sh ci ai al q p0 p1 y1 Q X := by
  refine ⟨H.own, ok_listOf H (fun a1 w hw => ok_checkOp (fun a3 => ok_checkRoom H (fun a4 => ok_fresh H (fun z t hz ht N => ?_)) (hU a1 a3)) (hA a1)) hI⟩
  exact ok_X0 N hw (fun sh' ci' ai' al' N' F' W' => Nw.add (by decide) H N' a4 ht F' W' (fun sh2 rk2 ci2 ai2 h2 => hQ a1 a3 a4 _ _ _ _ _ h2))
theorem mk_take {Q : Int32 → Sh → SCTy} (H : XI sh rk q ci ai n m pu) (hQ : inL p0 n → inO p1 400 → n < 24 → KM q n m pu Q) (hI : ¬ inL p0 n → X "java/lang/IndexOutOfBoundsException") (hA : inL p0 n → ¬ inO p1 400 → X "java/lang/IllegalArgumentException") (hU : inL p0 n → inO p1 400 → ¬ n < 24 → X "java/lang/UnsupportedOperationException") : P_X11_take sh ci ai al q p0 p1 Q X := by
  refine ⟨H.own, ok_listOf H (fun a1 w hw => ok_checkLength (fun a3 => ok_checkRoom H (fun a4 => ok_fresh H (fun z t hz ht N => ?_)) (hU a1 a3)) (hA a1)) hI⟩
  exact ok_X2 N hw (fun sh' ci' ai' al' N' F' W' => Nw.add (by decide) H N' a4 ht F' W' (fun sh2 rk2 ci2 ai2 h2 => hQ a1 a3 a4 _ _ _ _ _ h2))
theorem mk_drop {Q : Int32 → Sh → SCTy} (H : XI sh rk q ci ai n m pu) (hQ : inL p0 n → inO p1 400 → n < 24 → KM q n m pu Q) (hI : ¬ inL p0 n → X "java/lang/IndexOutOfBoundsException") (hA : inL p0 n → ¬ inO p1 400 → X "java/lang/IllegalArgumentException") (hU : inL p0 n → inO p1 400 → ¬ n < 24 → X "java/lang/UnsupportedOperationException") : P_X11_drop sh ci ai al q p0 p1 Q X := by
  refine ⟨H.own, ok_listOf H (fun a1 w hw => ok_checkLength (fun a3 => ok_checkRoom H (fun a4 => ok_fresh H (fun z t hz ht N => ?_)) (hU a1 a3)) (hA a1)) hI⟩
  exact ok_X8 N hw (fun sh' ci' ai' al' N' F' W' => Nw.add (by decide) H N' a4 ht F' W' (fun sh2 rk2 ci2 ai2 h2 => hQ a1 a3 a4 _ _ _ _ _ h2))
theorem mk_keep {Q : Int32 → Sh → SCTy} (H : XI sh rk q ci ai n m pu) (hQ : inL p0 n → inO p1 3 → n < 24 → KM q n m pu Q) (hI : ¬ inL p0 n → X "java/lang/IndexOutOfBoundsException") (hA : inL p0 n → ¬ inO p1 3 → X "java/lang/IllegalArgumentException") (hU : inL p0 n → inO p1 3 → ¬ n < 24 → X "java/lang/UnsupportedOperationException") : P_X11_keep sh ci ai al q p0 p1 y1 Q X := by
  refine ⟨H.own, ok_listOf H (fun a1 w hw => ok_checkCond (fun a3 => ok_checkRoom H (fun a4 => ok_fresh H (fun z t hz ht N => ?_)) (hU a1 a3)) (hA a1)) hI⟩
  exact ok_X10 N hw (fun sh' ci' ai' al' N' F' W' => Nw.add (by decide) H N' a4 ht F' W' (fun sh2 rk2 ci2 ai2 h2 => hQ a1 a3 a4 _ _ _ _ _ h2))
theorem mk_during {Q : Int32 → Sh → SCTy} (H : XI sh rk q ci ai n m pu) (hQ : inL p0 n → inO p1 3 → n < 24 → KM q n m pu Q) (hI : ¬ inL p0 n → X "java/lang/IndexOutOfBoundsException") (hA : inL p0 n → ¬ inO p1 3 → X "java/lang/IllegalArgumentException") (hU : inL p0 n → inO p1 3 → ¬ n < 24 → X "java/lang/UnsupportedOperationException") : P_X11_during sh ci ai al q p0 p1 y1 Q X := by
  refine ⟨H.own, ok_listOf H (fun a1 w hw => ok_checkCond (fun a3 => ok_checkRoom H (fun a4 => ok_fresh H (fun z t hz ht N => ?_)) (hU a1 a3)) (hA a1)) hI⟩
  exact ok_X2 N hw (fun sh' ci' ai' al' N' F' W' => Nw.add (by decide) H N' a4 ht F' W' (fun sh2 rk2 ci2 ai2 h2 => hQ a1 a3 a4 _ _ _ _ _ h2))
theorem mk_after {Q : Int32 → Sh → SCTy} (H : XI sh rk q ci ai n m pu) (hQ : inL p0 n → inO p1 3 → n < 24 → KM q n m pu Q) (hI : ¬ inL p0 n → X "java/lang/IndexOutOfBoundsException") (hA : inL p0 n → ¬ inO p1 3 → X "java/lang/IllegalArgumentException") (hU : inL p0 n → inO p1 3 → ¬ n < 24 → X "java/lang/UnsupportedOperationException") : P_X11_after sh ci ai al q p0 p1 y1 Q X := by
  refine ⟨H.own, ok_listOf H (fun a1 w hw => ok_checkCond (fun a3 => ok_checkRoom H (fun a4 => ok_fresh H (fun z t hz ht N => ?_)) (hU a1 a3)) (hA a1)) hI⟩
  exact ok_X8 N hw (fun sh' ci' ai' al' N' F' W' => Nw.add (by decide) H N' a4 ht F' W' (fun sh2 rk2 ci2 ai2 h2 => hQ a1 a3 a4 _ _ _ _ _ h2))
theorem mk_join {Q : Int32 → Sh → SCTy} (H : XI sh rk q ci ai n m pu) (hQ : inL p0 n → inL p1 n → n < 24 → KM q n m pu Q) (hI : ¬ (inL p0 n ∧ inL p1 n) → X "java/lang/IndexOutOfBoundsException") (hU : inL p0 n → inL p1 n → ¬ n < 24 → X "java/lang/UnsupportedOperationException") : P_X11_join sh ci ai al q p0 p1 Q X := by
  refine ⟨H.own, ok_listOf H (fun a1 w hw => ok_listOf H (fun a2 w2 hw2 => ok_checkRoom H (fun a4 => ok_fresh H (fun z t hz ht N => ?_)) (hU a1 a2)) (fun h => hI (fun c => h c.2))) (fun h => hI (fun c => h c.1))⟩
  exact ok_X4 N hw hw2 (fun sh' ci' ai' al' N' F' W' => Nw.add (by decide) H N' a4 ht F' W' (fun sh2 rk2 ci2 ai2 h2 => hQ a1 a2 a4 _ _ _ _ _ h2))
theorem mk_other {Q : Int32 → Sh → SCTy} (H : XI sh rk q ci ai n m pu) (hQ : inL p0 n → inO p1 4 → n < 24 → KM q n m pu Q) (hI : ¬ inL p0 n → X "java/lang/IndexOutOfBoundsException") (hA : inL p0 n → ¬ inO p1 4 → X "java/lang/IllegalArgumentException") (hU : inL p0 n → inO p1 4 → ¬ n < 24 → X "java/lang/UnsupportedOperationException") : P_X11_other sh ci ai al q p0 p1 Q X := by
  refine ⟨H.own, ok_listOf H (fun a1 w hw => ⟨fun h => hA a1 (fun c => c.1 h), fun h3 => ⟨fun h4 => ok_checkRoom H (fun a4 => ?_) (hU a1 ⟨h3, h4⟩), fun h4 => hA a1 (fun c => h4 c.2)⟩⟩) hI⟩
  have hQ' := hQ a1 ⟨h3, h4⟩ a4
  refine ⟨H.own, fun _ => ok_fresh H (fun z t hz ht N => ?_), fun _ => ⟨fun _ => ok_fresh H (fun z t hz ht N => ?_), fun _ => ⟨fun _ => ok_fresh H (fun z t hz ht N => ?_), fun _ => ⟨fun _ => ok_fresh H (fun z t hz ht N => ?_), fun _ => ok_fresh H (fun z t hz ht N => ?_)⟩⟩⟩⟩
  · exact ok_X4N N hw (fun sh' ci' ai' al' N' F' W' => Nw.add (by decide) H N' a4 ht F' W' (fun sh2 rk2 ci2 ai2 h2 => hQ' _ _ _ _ _ h2))
  · exact ok_X7 N hw (fun sh' ci' ai' al' N' F' W' => Nw.add (by decide) H N' a4 ht F' W' (fun sh2 rk2 ci2 ai2 h2 => hQ' _ _ _ _ _ h2))
  · exact ok_X7 N hw (fun sh' ci' ai' al' N' F' W' => Nw.add (by decide) H N' a4 ht F' W' (fun sh2 rk2 ci2 ai2 h2 => hQ' _ _ _ _ _ h2))
  · exact ok_X10 N hw (fun sh' ci' ai' al' N' F' W' => Nw.add (by decide) H N' a4 ht F' W' (fun sh2 rk2 ci2 ai2 h2 => hQ' _ _ _ _ _ h2))
  · exact ok_X9 N hw (fun sh' ci' ai' al' N' F' W' => Nw.add (by decide) H N' a4 ht F' W' (fun sh2 rk2 ci2 ai2 h2 => hQ' _ _ _ _ _ h2))
end XK
