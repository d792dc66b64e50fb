-- the abstract memory: cells have a kind k and a number r; their slots j hold an int, a long or a reference to a cell
abbrev fr_I : Type := Nat → Nat → Nat → Int32
abbrev fr_J : Type := Nat → Nat → Nat → Int64
abbrev fr_P : Type := Nat → Nat → Nat → Option (Nat × Nat)
-- references, which cells live, the heap's size
abbrev fr_Z : Type := fr_P × (Nat → Nat → Prop) × Nat
-- the launch, class numbers and slots, the addresses, the first address that is ours
abbrev fr_X : Type := Launch × va_G × (Nat → Nat → Nat) × Nat
abbrev fr_E : Type := Program × Env × State × MethodId × Array Value × List Frame × Method × Code
def fr_ad (X : fr_X) (k r : Nat) : Nat := X.2.2.1 k r
def fr_ui (I : fr_I) (k r j : Nat) (v : Int32) : fr_I := fun a b c => if a = k ∧ b = r ∧ c = j then v else I a b c
def fr_uj (J : fr_J) (k r j : Nat) (v : Int64) : fr_J := fun a b c => if a = k ∧ b = r ∧ c = j then v else J a b c
def fr_up (P : fr_P) (k r j : Nat) (v : Option (Nat × Nat)) : fr_P := fun a b c => if a = k ∧ b = r ∧ c = j then v else P a b c
def fr_zi (I : fr_I) (k r : Nat) : fr_I := fun a b c => if a = k ∧ b = r then 0 else I a b c
def fr_zj (J : fr_J) (k r : Nat) : fr_J := fun a b c => if a = k ∧ b = r then 0 else J a b c
def fr_zp (P : fr_P) (k r : Nat) : fr_P := fun a b c => if a = k ∧ b = r then none else P a b c
def fr_vl (X : fr_X) (P : fr_P) (I : fr_I) (J : fr_J) (k r j : Nat) : Value := match fr_so k j with
  | 0 => .int (I k r j)
  | 1 => .long (J k r j)
  | _ => va_rf ((P k r j).map (fun q => fr_ad X q.1 q.2))
theorem fr_vl0 {X : fr_X} {P : fr_P} {I : fr_I} {J : fr_J} {k r j : Nat} (hs : fr_so k j = 0) : fr_vl X P I J k r j = .int (I k r j) := by
  unfold fr_vl; simp only [hs]
theorem fr_vl1 {X : fr_X} {P : fr_P} {I : fr_I} {J : fr_J} {k r j : Nat} (hs : fr_so k j = 1) : fr_vl X P I J k r j = .long (J k r j) := by
  unfold fr_vl; simp only [hs]
theorem fr_vl2 {X : fr_X} {P : fr_P} {I : fr_I} {J : fr_J} {k r j : Nat} (hs : fr_so k j = 2) : fr_vl X P I J k r j = va_rf ((P k r j).map (fun q => fr_ad X q.1 q.2)) := by
  unfold fr_vl; simp only [hs]
theorem fr_vl_eq {X : fr_X} {P P1 : fr_P} {I I1 : fr_I} {J J1 : fr_J} {k r j : Nat} (hi : I1 k r j = I k r j) (hj : J1 k r j = J k r j) (hp : P1 k r j = P k r j) : fr_vl X P1 I1 J1 k r j = fr_vl X P I J k r j := by
  unfold fr_vl; rw [hi, hj, hp]
theorem fr_ui_s {I : fr_I} {k r j : Nat} {v : Int32} : fr_ui I k r j v k r j = v := if_pos ⟨rfl, rfl, rfl⟩
theorem fr_uj_s {I : fr_J} {k r j : Nat} {v : Int64} : fr_uj I k r j v k r j = v := if_pos ⟨rfl, rfl, rfl⟩
theorem fr_up_s {I : fr_P} {k r j : Nat} {v : Option (Nat × Nat)} : fr_up I k r j v k r j = v := if_pos ⟨rfl, rfl, rfl⟩
theorem fr_ui_n {I : fr_I} {k r j a b c : Nat} {v : Int32} (h : ¬ (a = k ∧ b = r ∧ c = j)) : fr_ui I k r j v a b c = I a b c := if_neg h
theorem fr_uj_n {I : fr_J} {k r j a b c : Nat} {v : Int64} (h : ¬ (a = k ∧ b = r ∧ c = j)) : fr_uj I k r j v a b c = I a b c := if_neg h
theorem fr_up_n {I : fr_P} {k r j a b c : Nat} {v : Option (Nat × Nat)} (h : ¬ (a = k ∧ b = r ∧ c = j)) : fr_up I k r j v a b c = I a b c := if_neg h
/-- a cell of the abstract memory lies in the heap: an object, or an array -/
def fr_ce (X : fr_X) (P : fr_P) (I : fr_I) (J : fr_J) (U : State) (H : Heap) (k r : Nat) : Prop := match fr_kd k with
  | .inl ci => ∃ q : vw_C, fr_cl[ci]? = some q ∧ t_OB (fr_ad X k r) (X.2.1.1 ci) q.2.2 (X.2.1.2 ci) H (fr_vl X P I J k r)
  | .inr t => ∃ cA : ClassId, ArrOfT U cA t.1 ∧ va_RA U cA t.1 ∧ H[fr_ad X k r]? = some (arrV cA t.2 (fr_vl X P I J k r))
theorem fr_ce_o {X : fr_X} {P : fr_P} {I : fr_I} {J : fr_J} {U : State} {H : Heap} {k r ci : Nat} (hk : fr_kd k = .inl ci) : fr_ce X P I J U H k r ↔ ∃ q : vw_C, fr_cl[ci]? = some q ∧ t_OB (fr_ad X k r) (X.2.1.1 ci) q.2.2 (X.2.1.2 ci) H (fr_vl X P I J k r) := by
  unfold fr_ce; simp only [hk]
theorem fr_ce_a {X : fr_X} {P : fr_P} {I : fr_I} {J : fr_J} {U : State} {H : Heap} {k r N : Nat} {ty : FieldType} (hk : fr_kd k = .inr (ty, N)) : fr_ce X P I J U H k r ↔ ∃ cA : ClassId, ArrOfT U cA ty ∧ va_RA U cA ty ∧ H[fr_ad X k r]? = some (arrV cA N (fr_vl X P I J k r)) := by
  unfold fr_ce; simp only [hk]
theorem fr_ce.kept {X : fr_X} {P P1 : fr_P} {I I1 : fr_I} {J J1 : fr_J} {U : State} {H H1 : Heap} {k r : Nat} (h : fr_ce X P I J U H k r) (hq : H1[fr_ad X k r]? = H[fr_ad X k r]?) (hv : ∀ j, fr_vl X P1 I1 J1 k r j = fr_vl X P I J k r j) : fr_ce X P1 I1 J1 U H1 k r := by
  have e : fr_vl X P1 I1 J1 k r = fr_vl X P I J k r := funext hv
  rcases hk : fr_kd k with ci | ⟨ty, N⟩
  · obtain ⟨q, h1, h2⟩ := (fr_ce_o hk).mp h
    exact (fr_ce_o hk).mpr ⟨q, h1, by rw [e]; exact h2.kept hq⟩
  · obtain ⟨cA, h1, h2, h3⟩ := (fr_ce_a hk).mp h
    exact (fr_ce_a hk).mpr ⟨cA, h1, h2, by rw [e, hq]; exact h3⟩
theorem fr_ce.moved {X : fr_X} {P : fr_P} {I : fr_I} {J : fr_J} {U V : State} {H : Heap} {k r : Nat} (hvm : U.vm.Alike V.vm) (h : fr_ce X P I J U H k r) : fr_ce X P I J V H k r := by
  rcases hk : fr_kd k with ci | ⟨ty, N⟩
  · exact (fr_ce_o hk).mpr ((fr_ce_o hk).mp h)
  · obtain ⟨cA, h1, h2, h3⟩ := (fr_ce_a hk).mp h
    exact (fr_ce_a hk).mpr ⟨cA, arrOfT_moved hvm h1, h2.moved hvm, h3⟩
theorem fr_ce.lt {X : fr_X} {P : fr_P} {I : fr_I} {J : fr_J} {U : State} {H : Heap} {k r : Nat} (h : fr_ce X P I J U H k r) : fr_ad X k r < H.size := by
  rcases hk : fr_kd k with ci | ⟨ty, N⟩
  · obtain ⟨q, h1, cell, h2, -⟩ := (fr_ce_o hk).mp h
    exact (Array.getElem?_eq_some_iff.mp h2).1
  · obtain ⟨cA, h1, h2, h3⟩ := (fr_ce_a hk).mp h
    exact (Array.getElem?_eq_some_iff.mp h3).1
def fr_ok (X : fr_X) (Z : fr_Z) (I : fr_I) (J : fr_J) (U : State) (H : Heap) : Prop :=
  (∀ k r, Z.2.1 k r → fr_ce X Z.1 I J U H k r) ∧ (∀ k r k' r', Z.2.1 k r → Z.2.1 k' r' → fr_ad X k r = fr_ad X k' r' → k = k' ∧ r = r') ∧ ∀ k r, Z.2.1 k r → X.2.2.2 ≤ fr_ad X k r
theorem fr_ok.moved {X : fr_X} {Z : fr_Z} {I : fr_I} {J : fr_J} {U V : State} {H : Heap} (hvm : U.vm.Alike V.vm) (h : fr_ok X Z I J U H) : fr_ok X Z I J V H := ⟨fun k r hl => (h.1 k r hl).moved hvm, h.2⟩
theorem fr_ok.set {X : fr_X} {Z : fr_Z} {P1 : fr_P} {I I1 : fr_I} {J J1 : fr_J} {U : State} {H H1 : Heap} {k r : Nat} (h : fr_ok X Z I J U H) (hl : Z.2.1 k r) (hc : fr_ce X P1 I1 J1 U H1 k r) (ho : ∀ q, q ≠ fr_ad X k r → H1[q]? = H[q]?)
    (hv : ∀ k' r' j', ¬ (k' = k ∧ r' = r) → fr_vl X P1 I1 J1 k' r' j' = fr_vl X Z.1 I J k' r' j') : fr_ok X (P1, Z.2) I1 J1 U H1 := by
  refine ⟨fun k' r' hl' => ?_, h.2.1, h.2.2⟩
  by_cases e : k' = k ∧ r' = r
  · obtain ⟨rfl, rfl⟩ := e
    exact hc
  · exact (h.1 k' r' hl').kept (ho _ (fun q => e (h.2.1 k' r' k r hl' hl q))) (fun j' => hv k' r' j' e)
/-- what holds while a method of ours runs -/
def fr_Cx (X : fr_X) (E : fr_E) (own nm : String) (cc : ByteArray) (nL : Nat) (ret : Option FieldType) : Prop :=
  E.1.tables.exec = Jvm.exec ∧ E.2.2.2.2.2.2.2.code = cc ∧ E.2.2.2.2.2.2.2.maxLocals = nL ∧ E.2.2.1.vm.findClass own = some E.2.2.2.1.cls ∧ (∀ w ∈ fr_ws, w.before E.2.2.2.2.1 E.2.2.1 = true) ∧ va_K X.2.1 fr_cl [] E.2.2.1 ∧ ((∀ q ∈ fr_nw, va_Nw (.methodLinkNest q.1 q.2.1 q.2.2.1 q.2.2.2) E.2.2.1) ∧ va_AO fr_aC E.2.2.1) ∧ E.2.2.2.2.2.2.1.sig.returnType = ret ∧ E.2.2.2.2.2.2.1.locks = false ∧ E.2.2.2.2.2.2.1.name = nm ∧ X.2.2.2 ≤ E.2.2.1.heap.size
def fr_Ev (X : fr_X) (E : fr_E) (own nm : String) (cc : ByteArray) (nL : Nat) (ret : Option FieldType) (R : Room) (Q : State → Prop) (cs sl : Nat) (Z : fr_Z) (pc : Nat) (L : List (Nat × Value)) (st : List Value) (I : fr_I) (J : fr_J) : Prop :=
  fr_Cx X E own nm cc nL ret → ∀ (H : Heap) (locs : List Loc) (ls : Array Slot), H.size = Z.2.2 → fr_ok X Z I J E.2.2.1 H → va_S (fun q => X.2.2.2 ≤ q) E.2.2.1.heap H locs → lv_has ls nL L →
    W E.1 X.1 E.2.1 R E.2.2.1 E.2.2.2.1 E.2.2.2.2.1 E.2.2.2.2.2.1 E.2.2.2.2.2.2.1 E.2.2.2.2.2.2.2 H locs cs sl Q (F0 E.2.2.2.1 pc ls st)
def fr_lk : List (Nat × Value) → Nat → Option Value
  | [], _ => none
  | q :: t, i => if q.1 = i then some q.2 else fr_lk t i
theorem fr_lk_at {ls : Array Slot} {nL i : Nat} {v : Value} {L : List (Nat × Value)} (h : lv_has ls nL L) (hk : fr_lk L i = some v) : ls[i]? = some (.val v) := by
  have key : ∀ L : List (Nat × Value), fr_lk L i = some v → (i, v) ∈ L := by
    intro L
    induction L with
    | nil => intro h; cases h
    | cons q t ih =>
      intro h
      unfold fr_lk at h
      split at h
      · rename_i e
        cases h
        rw [← e]
        exact List.mem_cons_self
      · exact List.mem_cons_of_mem _ (ih h)
  exact h.2.2 (i, v) (key L hk)
theorem fr_ok.conv {X : fr_X} {Z Z2 : fr_Z} {I I2 : fr_I} {J J2 : fr_J} {U : State} {H : Heap} (h : fr_ok X Z I J U H) (hl : ∀ k r, Z2.2.1 k r → Z.2.1 k r) (he : ∀ k r j, Z2.2.1 k r → Z2.1 k r j = Z.1 k r j ∧ I2 k r j = I k r j ∧ J2 k r j = J k r j) : fr_ok X Z2 I2 J2 U H :=
  ⟨fun k r q => (h.1 k r (hl k r q)).kept rfl (fun j => fr_vl_eq (he k r j q).2.1 (he k r j q).2.2 (he k r j q).1), fun k r k' r' q q' => h.2.1 k r k' r' (hl _ _ q) (hl _ _ q'), fun k r q => h.2.2 k r (hl _ _ q)⟩
theorem fr_ok.grow {X : fr_X} {Z : fr_Z} {P1 : fr_P} {I I1 : fr_I} {J J1 : fr_J} {U : State} {H H1 : Heap} {k r : Nat} (h : fr_ok X Z I J U H) (ha : fr_ad X k r = H.size) (hc : fr_ce X P1 I1 J1 U H1 k r) (ho : ∀ q, q < H.size → H1[q]? = H[q]?) (hb : X.2.2.2 ≤ H.size)
    (hv : ∀ k' r' j', ¬ (k' = k ∧ r' = r) → fr_vl X P1 I1 J1 k' r' j' = fr_vl X Z.1 I J k' r' j') : fr_ok X (P1, (fun a b => Z.2.1 a b ∨ (a = k ∧ b = r)), Z.2.2 + 1) I1 J1 U H1 := by
  refine ⟨fun k' r' hl => ?_, fun k1 r1 k2 r2 h1 h2 e => ?_, fun k' r' hl => ?_⟩
  · by_cases e : k' = k ∧ r' = r
    · obtain ⟨rfl, rfl⟩ := e
      exact hc
    · rcases hl with hl | hl
      · exact (h.1 k' r' hl).kept (ho _ (h.1 k' r' hl).lt) (fun j' => hv k' r' j' e)
      · exact absurd hl e
  · rcases h1 with h1 | h1 <;> rcases h2 with h2 | h2
    · exact h.2.1 _ _ _ _ h1 h2 e
    · have := (h.1 k1 r1 h1).lt
      rw [h2.1, h2.2] at e
      omega
    · have := (h.1 k2 r2 h2).lt
      rw [h1.1, h1.2] at e
      omega
    · exact ⟨h1.1.trans h2.1.symm, h1.2.trans h2.2.symm⟩
  · rcases hl with hl | ⟨rfl, rfl⟩
    · exact h.2.2 k' r' hl
    · rw [ha]; exact hb
