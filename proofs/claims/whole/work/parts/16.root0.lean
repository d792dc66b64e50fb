-- the class's root, as its loop goes: K bits are left
def fr_bt : Nat → Int32
  | 0 => 0
  | K + 1 => nI (2 ^ K)
def fr_rb (m : Int64) : Nat → Int32 → Int32
  | 0, a => a
  | K + 1, a => if 0 < lg_cmp ((a + fr_bt (K + 1)).toInt64 * (a + fr_bt (K + 1)).toInt64) m then fr_rb m K a else fr_rb m K (a + fr_bt (K + 1))
theorem fr_rb_gt {m : Int64} {K : Nat} {a : Int32} (h : 0 < lg_cmp ((a + fr_bt (K + 1)).toInt64 * (a + fr_bt (K + 1)).toInt64) m) : fr_rb m (K + 1) a = fr_rb m K a := if_pos h
theorem fr_rb_le {m : Int64} {K : Nat} {a : Int32} (h : ¬ 0 < lg_cmp ((a + fr_bt (K + 1)).toInt64 * (a + fr_bt (K + 1)).toInt64) m) : fr_rb m (K + 1) a = fr_rb m K (a + fr_bt (K + 1)) := if_neg h
theorem fr_bt_pos {K : Nat} (h : K < 18) : ¬ fr_bt (K + 1) ≤ 0 := by
  have : ∀ K, K < 18 → ¬ fr_bt (K + 1) ≤ 0 := by decide
  exact this K h
theorem fr_bt_shr {K : Nat} (h : K < 18) : fr_bt (K + 1) >>> ((1 : Int32) &&& 31) = fr_bt K := by
  have : ∀ K, K < 18 → fr_bt (K + 1) >>> ((1 : Int32) &&& 31) = fr_bt K := by decide
  exact this K h
section FRind
variable {X : fr_X} {E : fr_E} {own nm : String} {cc : ByteArray} {nL : Nat} {ret : Option FieldType} {R : Room} {Q : State → Prop} {cs sl : Nat} {Z : fr_Z} {pc : Nat} {L : List (Nat × Value)} {st : List Value} {I : fr_I} {J : fr_J}
theorem fr_ind {α : Type} (LL : Nat → α → List (Nat × Value)) (inv : Nat → α → Prop) (e : Nat) (a0 : α) (h0 : L = LL e a0) (hi0 : inv e a0) (hz : ∀ a, inv 0 a → fr_Ev X E own nm cc nL ret R Q cs sl Z pc (LL 0 a) st I J)
    (hs : ∀ K a, K < e → inv (K + 1) a → (∀ a', inv K a' → fr_Ev X E own nm cc nL ret R Q cs sl Z pc (LL K a') st I J) → fr_Ev X E own nm cc nL ret R Q cs sl Z pc (LL (K + 1) a) st I J) : fr_Ev X E own nm cc nL ret R Q cs sl Z pc L st I J := by
  subst h0
  have key : ∀ K, K ≤ e → ∀ a, inv K a → fr_Ev X E own nm cc nL ret R Q cs sl Z pc (LL K a) st I J := by
    intro K
    induction K with
    | zero => intro _ a ha; exact hz a ha
    | succ K ih => intro hK a ha; exact hs K a (by omega) ha (ih (by omega))
  exact key e (Nat.le_refl _) a0 hi0
end FRind
theorem fw_oldp {n : Nat} {I : fr_I} {r : Nat} (hr : r < n) (hw : fr_wf n I) : fr_wf n (fr_ui I 8 r 1 (((I 8 r 1) + 1) - ((I 8 r 1) + 1) / 4 * 4)) := by
  obtain ⟨h1, h2, h3, h4, h5, h6⟩ := hw
  refine ⟨h1, (fr_ui_n (fun z => absurd z.1 (by decide))).trans h2, by rw [fr_ui_n (fun z => absurd z.1 (by decide))]; exact h3, fun q hq => ?_, fun q hq => by rw [fr_ui_n (fun z => absurd z.1 (by decide))]; exact h5 q hq, by rw [fr_ui_n (fun z => absurd z.1 (by decide))]; exact h6⟩
  by_cases e : q = r
  · subst e
    rw [fr_ui_s]
    obtain ⟨a, ha, h⟩ := h4 q hq
    rw [h, nI_1]
    exact ⟨(a + 1) % 4, Nat.mod_lt _ (by decide), pk_rem (a := a + 1) (d := 4) (by omega) (by decide) (by decide)⟩
  · rw [fr_ui_n (fun z => e z.2.1)]; exact h4 q hq
theorem fw_abv_eq {n r : Nat} {I : fr_I} (hw : fr_wf n I) (hr : r < n) (h : ¬ I 7 r 0 = -1) : I 7 r 0 = nI (I 7 r 0).toNatClampNeg := by
  rcases hw.2.2.2.2.1 r hr with ⟨_, h1⟩ | ⟨a, ha, h1⟩
  · exact absurd h1 h
  · have := hw.1
    rw [h1, nI_clamp (by omega)]
theorem fw_abv_lt {n r : Nat} {I : fr_I} (hw : fr_wf n I) (hr : r < n) (h : ¬ I 7 r 0 = -1) : (I 7 r 0).toNatClampNeg < r := by
  rcases hw.2.2.2.2.1 r hr with ⟨_, h1⟩ | ⟨a, ha, h1⟩
  · exact absurd h1 h
  · have := hw.1
    rw [h1, nI_clamp (by omega)]
    exact ha
theorem fw_abv_n {n r : Nat} {I : fr_I} (hw : fr_wf n I) (hr : r < n) (h : 0 < r) : ¬ I 7 r 0 = -1 := by
  rcases hw.2.2.2.2.1 r hr with ⟨h0, _⟩ | ⟨a, ha, h1⟩
  · omega
  · have h8 := hw.1
    rw [h1]
    intro h2
    have h3 : nI a < 0 := by rw [h2]; decide
    exact nI_pos (by omega) h3
section FRind2
variable {X : fr_X} {E : fr_E} {own nm : String} {cc : ByteArray} {nL : Nat} {ret : Option FieldType} {R : Room} {Q : State → Prop} {cs sl : Nat} {Z : fr_Z} {pc : Nat} {L : List (Nat × Value)} {st : List Value} {I : fr_I} {J : fr_J}
theorem fr_ind2 {α : Type} (LL : Nat → α → List (Nat × Value)) (S : α → fr_I × fr_J) (inv : Nat → α → Prop) (e : Nat) (a0 : α) (h0 : L = LL e a0) (hI : I = (S a0).1) (hJ : J = (S a0).2) (hi0 : inv e a0) (hz : ∀ a, inv 0 a → fr_Ev X E own nm cc nL ret R Q cs sl Z pc (LL 0 a) st (S a).1 (S a).2)
    (hs : ∀ K a, K < e → inv (K + 1) a → (∀ a', inv K a' → fr_Ev X E own nm cc nL ret R Q cs sl Z pc (LL K a') st (S a').1 (S a').2) → fr_Ev X E own nm cc nL ret R Q cs sl Z pc (LL (K + 1) a) st (S a).1 (S a).2) : fr_Ev X E own nm cc nL ret R Q cs sl Z pc L st I J := by
  subst h0 hI hJ
  have key : ∀ K, K ≤ e → ∀ a, inv K a → fr_Ev X E own nm cc nL ret R Q cs sl Z pc (LL K a) st (S a).1 (S a).2 := by
    intro K
    induction K with
    | zero => intro _ a ha; exact hz a ha
    | succ K ih => intro hK a ha; exact hs K a (by omega) ha (ih (by omega))
  exact key e (Nat.le_refl _) a0 hi0
end FRind2
/-- the flows of what is below are added, from relay K down to 1 -/
def fr_f2s (I : fr_I) (q : Nat) : fr_I := fr_ui I 2 0 (I 7 q 0).toNatClampNeg ((I 2 0 (I 7 q 0).toNatClampNeg) + (I 2 0 q))
def fr_f2 : Nat → fr_I → fr_I
  | 0, I => I
  | K + 1, I => fr_f2 K (fr_f2s I (K + 1))
theorem fw_f2s {n q : Nat} {I : fr_I} (hw : fr_wf n I) : fr_wf n (fr_f2s I q) := fw_ui (k := 2) rfl hw
theorem fw_f2 {n : Nat} : ∀ {K : Nat} {I : fr_I}, fr_wf n I → fr_wf n (fr_f2 K I) := by
  intro K
  induction K with
  | zero => intro I hw; exact hw
  | succ K ih => intro I hw; exact ih (fw_f2s hw)
theorem fc_f2 {P : fr_I → Prop} (hP : fr_cst P) : ∀ {K : Nat} {I : fr_I}, P I → P (fr_f2 K I) := by
  intro K
  induction K with
  | zero => intro I h; exact h
  | succ K ih => intro I h; exact ih (hP (by decide) h)
