abbrev KS (n m u : Nat) (w : Nat → Int64) (Q : Int32 → MT) : Prop := ∀ v' fi' fl', RI v' fi' (n + 1) m u → v' 19 = 0 → Q (nI n) v' w fi' fl'
abbrev KF (n m u : Nat) (w : Nat → Int64) (fi : Nat → Nat → Int32) (fl : Nat → Nat → Int64) (c : Int32) (Q : Int32 → MT) : Prop := ∀ v', RI v' fi n m u → v' 19 = c → Q 0 v' w fi fl
section ME
variable {v v1 : Nat → Int32} {w : Nat → Int64} {fi fi' : Nat → Nat → Int32} {fl : Nat → Nat → Int64} {n m u a b k l t j : Nat} {r s c p0 p1 p2 p3 : Int32} {y z : Int64} {Q : Int32 → MT}
theorem mn_fail (h : RI v fi n m u) (hF : KF n m u w fi fl c Q) : P_X12_fail v w fi fl c Q := hF _ (h.up (by decide) (by decide) (by decide)) va_self
theorem RI.room (h : RI v fi n m u) : (¬ v 0 = 24 → n < 24) ∧ (v 0 = 24 → ¬ n < 24) := by
  have hn := h.1.1
  rw [h.2.1]
  refine ⟨fun e => ?_, fun e hlt => ?_⟩
  · rcases Nat.lt_or_ge n 24 with g | g
    · exact g
    · exact absurd (by rw [show n = 24 by omega]; rfl) e
  · have := nI_inj (a := n) (b := 24) (by omega) (by decide) e
    omega
theorem inL_of (hn : n ≤ 24) (ha : a < n) : inL (nI a) n := ⟨nI_pos (by omega), nI_ge ha (by omega)⟩
theorem in400 (h : inO p0 400) : ∃ c, c ≤ 400 ∧ p0 = nI c := by
  obtain ⟨j, hj, e⟩ := nI_of2 (n := 400) (M := 400) (by decide) h.1 h.2
  exact ⟨j, hj, e⟩
theorem r_count (h : RI v fi n m u) (hQ : n < 24 → KS n m u w Q) (hU : ¬ n < 24 → KF n m u w fi fl 1 Q) : P_X12_count v w fi fl y z Q := by
  have h' : RI (va_up v 19 0) fi n m u := h.up (by decide) (by decide) (by decide)
  exact ⟨fun e => mn_made (t := 1) h' (h'.room.1 e) (by decide) rfl (fun e => absurd e (by decide)) (fun e => absurd e (by decide)) (fun e => absurd e (by decide)) (fun e => absurd e (by decide)) (fun v' fi' fl' g g2 => hQ (h.room.1 e) _ _ _ g (g2.trans va_self)), fun e => mn_fail h' (hU (h.room.2 e))⟩
theorem r_iterate (h : RI v fi n m u) (hQ : inO p0 8 → n < 24 → KS n m u w Q) (hA : ¬ inO p0 8 → KF n m u w fi fl 1 Q) (hU : inO p0 8 → ¬ n < 24 → KF n m u w fi fl 2 Q) : P_X12_iterate v w fi fl p0 y z Q := by
  have h' : RI (va_up v 19 0) fi n m u := h.up (by decide) (by decide) (by decide)
  exact mn_isOp (fun g => ⟨fun e => absurd rfl e, fun _ => mn_fail h' (hA g)⟩) (fun g3 => ⟨fun _ => ⟨fun e => mn_made (t := 2) h' (h'.room.1 e) (by decide) rfl (fun e => absurd e (by decide)) (fun e => absurd e (by decide)) (fun e => absurd e (by decide)) (fun e => absurd e (by decide)) (fun v' fi' fl' g g2 => hQ g3 (h.room.1 e) _ _ _ g (g2.trans va_self)), fun e => mn_fail h' (hU g3 (h.room.2 e))⟩, fun e => absurd e (by decide)⟩)
theorem r_map (h : RI v fi n m u) (hQ : inL p0 n → inO p1 8 → n < 24 → KS n m u w Q) (hI : ¬ inL p0 n → KF n m u w fi fl 1 Q) (hA : inL p0 n → ¬ inO p1 8 → KF n m u w fi fl 2 Q) (hU : inL p0 n → inO p1 8 → ¬ n < 24 → KF n m u w fi fl 3 Q) : P_X12_map v w fi fl p0 p1 y Q := by
  have h' : RI (va_up v 19 0) fi n m u := h.up (by decide) (by decide) (by decide)
  have hn := h.1.1
  refine mn_isList h' (fun a ha ea => ⟨fun _ => ?_, fun e => absurd e (by decide)⟩) (fun g => ⟨fun e => absurd rfl e, fun _ => mn_fail h' (hI g)⟩)
  subst ea
  have iL := inL_of hn ha
  exact mn_isOp (fun g => ⟨fun e => absurd rfl e, fun _ => mn_fail h' (hA iL g)⟩) (fun g3 => ⟨fun _ => ⟨fun e => mn_made (t := 3) h' (h'.room.1 e) (by decide) rfl (fun _ => ⟨_, ha, rfl⟩) (fun e => absurd e (by decide)) (fun e => absurd e (by decide)) (fun e => absurd e (by decide)) (fun v' fi' fl' g g2 => hQ iL g3 (h'.room.1 e) _ _ _ g (g2.trans va_self)), fun e => mn_fail h' (hU iL g3 (h'.room.2 e))⟩, fun e => absurd e (by decide)⟩)
theorem r_scan (h : RI v fi n m u) (hQ : inL p0 n → inO p1 8 → n < 24 → KS n m u w Q) (hI : ¬ inL p0 n → KF n m u w fi fl 1 Q) (hA : inL p0 n → ¬ inO p1 8 → KF n m u w fi fl 2 Q) (hU : inL p0 n → inO p1 8 → ¬ n < 24 → KF n m u w fi fl 3 Q) : P_X12_scan v w fi fl p0 p1 y Q := by
  have h' : RI (va_up v 19 0) fi n m u := h.up (by decide) (by decide) (by decide)
  have hn := h.1.1
  refine mn_isList h' (fun a ha ea => ⟨fun _ => ?_, fun e => absurd e (by decide)⟩) (fun g => ⟨fun e => absurd rfl e, fun _ => mn_fail h' (hI g)⟩)
  subst ea
  have iL := inL_of hn ha
  exact mn_isOp (fun g => ⟨fun e => absurd rfl e, fun _ => mn_fail h' (hA iL g)⟩) (fun g3 => ⟨fun _ => ⟨fun e => mn_made (t := 5) h' (h'.room.1 e) (by decide) rfl (fun _ => ⟨_, ha, rfl⟩) (fun e => absurd e (by decide)) (fun e => absurd e (by decide)) (fun e => absurd e (by decide)) (fun v' fi' fl' g g2 => hQ iL g3 (h'.room.1 e) _ _ _ g (g2.trans va_self)), fun e => mn_fail h' (hU iL g3 (h'.room.2 e))⟩, fun e => absurd e (by decide)⟩)
theorem r_both (h : RI v fi n m u) (hQ : inL p0 n → inL p1 n → inO p2 8 → n < 24 → KS n m u w Q) (hI : ¬ (inL p0 n ∧ inL p1 n) → KF n m u w fi fl 1 Q) (hA : inL p0 n → inL p1 n → ¬ inO p2 8 → KF n m u w fi fl 2 Q) (hU : inL p0 n → inL p1 n → inO p2 8 → ¬ n < 24 → KF n m u w fi fl 3 Q) : P_X12_both v w fi fl p0 p1 p2 Q := by
  have h' : RI (va_up v 19 0) fi n m u := h.up (by decide) (by decide) (by decide)
  have hn := h.1.1
  refine mn_isList h' (fun a ha ea => ⟨fun e => absurd e (by decide), fun _ => mn_isList h' (fun b hb eb => ⟨fun _ => ?_, fun e => absurd e (by decide)⟩) (fun g => ⟨fun e => absurd rfl e, fun _ => mn_fail h' (hI (fun c => g c.2))⟩)⟩) (fun g => ⟨fun _ => mn_fail h' (hI (fun c => g c.1)), fun e => absurd rfl e⟩)
  subst ea eb
  have iL := inL_of hn ha
  have iL2 := inL_of hn hb
  exact mn_isOp (fun g => ⟨fun e => absurd rfl e, fun _ => mn_fail h' (hA iL iL2 g)⟩) (fun g3 => ⟨fun _ => ⟨fun e => mn_made (t := 4) h' (h'.room.1 e) (by decide) rfl (fun _ => ⟨_, ha, rfl⟩) (fun _ => ⟨_, hb, rfl⟩) (fun e => absurd e (by decide)) (fun e => absurd e (by decide)) (fun v' fi' fl' g g2 => hQ iL iL2 g3 (h'.room.1 e) _ _ _ g (g2.trans va_self)), fun e => mn_fail h' (hU iL iL2 g3 (h'.room.2 e))⟩, fun e => absurd e (by decide)⟩)
theorem r_join (h : RI v fi n m u) (hQ : inL p0 n → inL p1 n → n < 24 → KS n m u w Q) (hI : ¬ (inL p0 n ∧ inL p1 n) → KF n m u w fi fl 1 Q) (hU : inL p0 n → inL p1 n → ¬ n < 24 → KF n m u w fi fl 2 Q) : P_X12_join v w fi fl p0 p1 Q := by
  have h' : RI (va_up v 19 0) fi n m u := h.up (by decide) (by decide) (by decide)
  have hn := h.1.1
  refine mn_isList h' (fun a ha ea => ⟨fun e => absurd e (by decide), fun _ => mn_isList h' (fun b hb eb => ⟨fun _ => ?_, fun e => absurd e (by decide)⟩) (fun g => ⟨fun e => absurd rfl e, fun _ => mn_fail h' (hI (fun c => g c.2))⟩)⟩) (fun g => ⟨fun _ => mn_fail h' (hI (fun c => g c.1)), fun e => absurd rfl e⟩)
  subst ea eb
  have iL := inL_of hn ha
  have iL2 := inL_of hn hb
  exact ⟨fun e => mn_made (t := 11) h' (h'.room.1 e) (by decide) rfl (fun _ => ⟨_, ha, rfl⟩) (fun _ => ⟨_, hb, rfl⟩) (fun e => absurd e (by decide)) (fun e => absurd e (by decide)) (fun v' fi' fl' g g2 => hQ iL iL2 (h'.room.1 e) _ _ _ g (g2.trans va_self)), fun e => mn_fail h' (hU iL iL2 (h'.room.2 e))⟩
theorem r_some (h' : RI v fi n m u) (h19 : v 19 = 0) (ht : p2 = nI t) (ht2 : t = 6 ∨ t = 7) (hQ : inL p0 n → inO p1 400 → n < 24 → KS n m u w Q) (hI : ¬ inL p0 n → KF n m u w fi fl 1 Q) (hA : inL p0 n → ¬ inO p1 400 → KF n m u w fi fl 2 Q) (hU : inL p0 n → inO p1 400 → ¬ n < 24 → KF n m u w fi fl 3 Q) : P_X12_some v w fi fl p2 p0 p1 Q := by
  have hn := h'.1.1
  refine mn_isList h' (fun a ha ea => ⟨fun _ => ?_, fun e => absurd e (by decide)⟩) (fun g => ⟨fun e => absurd rfl e, fun _ => mn_fail h' (hI g)⟩)
  subst ea
  have iL := inL_of hn ha
  exact ⟨fun g => mn_fail h' (hA iL (fun c => c.1 g)), fun g => ⟨fun g2 => ⟨fun e => mn_made (t := t) h' (h'.room.1 e) (by omega) ht (fun _ => ⟨_, ha, rfl⟩) (fun e => by omega) (fun e => by omega) (fun _ => in400 ⟨g, g2⟩) (fun v' fi' fl' q q2 => hQ iL ⟨g, g2⟩ (h'.room.1 e) _ _ _ q (q2.trans h19)), fun e => mn_fail h' (hU iL ⟨g, g2⟩ (h'.room.2 e))⟩, fun g2 => mn_fail h' (hA iL (fun c => g2 c.2))⟩⟩
theorem r_by (h' : RI v fi n m u) (h19 : v 19 = 0) (ht : p2 = nI t) (ht2 : t = 8 ∨ t = 9 ∨ t = 10) (hQ : inL p0 n → inO p1 3 → n < 24 → KS n m u w Q) (hI : ¬ inL p0 n → KF n m u w fi fl 1 Q) (hA : inL p0 n → ¬ inO p1 3 → KF n m u w fi fl 2 Q) (hU : inL p0 n → inO p1 3 → ¬ n < 24 → KF n m u w fi fl 3 Q) : P_X12_by v w fi fl p2 p0 p1 y Q := by
  have hn := h'.1.1
  refine mn_isList h' (fun a ha ea => ⟨fun _ => ?_, fun e => absurd e (by decide)⟩) (fun g => ⟨fun e => absurd rfl e, fun _ => mn_fail h' (hI g)⟩)
  subst ea
  have iL := inL_of hn ha
  exact mn_isCond (fun g => ⟨fun e => absurd rfl e, fun _ => mn_fail h' (hA iL g)⟩) (fun g3 => ⟨fun _ => ⟨fun e => mn_made (t := t) h' (h'.room.1 e) (by omega) ht (fun _ => ⟨_, ha, rfl⟩) (fun e => by omega) (fun e => by omega) (fun e => by omega) (fun v' fi' fl' g g2 => hQ iL g3 (h'.room.1 e) _ _ _ g (g2.trans h19)), fun e => mn_fail h' (hU iL g3 (h'.room.2 e))⟩, fun e => absurd e (by decide)⟩)
theorem r_other (h : RI v fi n m u) (hQ : inL p0 n → inO p1 4 → n < 24 → KS n m u w Q) (hI : ¬ inL p0 n → KF n m u w fi fl 1 Q) (hA : inL p0 n → ¬ inO p1 4 → KF n m u w fi fl 2 Q) (hU : inL p0 n → inO p1 4 → ¬ n < 24 → KF n m u w fi fl 3 Q) : P_X12_other v w fi fl p0 p1 Q := by
  have h' : RI (va_up v 19 0) fi n m u := h.up (by decide) (by decide) (by decide)
  have hn := h.1.1
  refine mn_isList h' (fun a ha ea => ⟨fun _ => ?_, fun e => absurd e (by decide)⟩) (fun g => ⟨fun e => absurd rfl e, fun _ => mn_fail h' (hI g)⟩)
  subst ea
  have iL := inL_of hn ha
  refine ⟨fun g => mn_fail h' (hA iL (fun c => c.1 g)), fun g => ⟨fun g2 => ⟨fun e => ?_, fun e => mn_fail h' (hU iL ⟨g, g2⟩ (h'.room.2 e))⟩, fun g2 => mn_fail h' (hA iL (fun c => g2 c.2))⟩⟩
  obtain ⟨j, hj, rfl⟩ := nI_of2 (n := 4) (M := 4) (by decide) g g2
  rw [show (12 : Int32) = nI 12 from rfl, nI_add]
  exact mn_made (t := 12 + j) h' (h'.room.1 e) (by omega) rfl (fun _ => ⟨_, ha, rfl⟩) (fun e => by omega) (fun e => by omega) (fun e => by omega) (fun v' fi' fl' q q2 => hQ iL ⟨g, g2⟩ (h'.room.1 e) _ _ _ q (q2.trans va_self))
end ME
