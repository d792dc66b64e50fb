-- numbers that are places
def fr_nn (x : Int32) (N : Nat) : Prop := ∃ e : Nat, e < N ∧ x = nI e
theorem fr_nn_eq {x : Int32} {N : Nat} (hN : N ≤ 2 ^ 31) (h : fr_nn x N) : x = nI x.toNatClampNeg := by
  obtain ⟨e, he, rfl⟩ := h
  rw [nI_clamp (by omega)]
theorem fr_nn_lt {x : Int32} {N : Nat} (hN : N ≤ 2 ^ 31) (h : fr_nn x N) : x.toNatClampNeg < N := by
  obtain ⟨e, he, rfl⟩ := h
  rw [nI_clamp (by omega)]
  exact he
/-- what the class's own steps rest on -/
def fr_wf (n : Nat) (I : fr_I) : Prop := n ≤ 8 ∧ I 0 0 4 = nI n ∧ fr_nn (I 4 0 2) 201 ∧ (∀ r, r < n → fr_nn (I 8 r 1) 4) ∧ (∀ r, r < n → (r = 0 ∧ I 7 r 0 = -1) ∨ ∃ a, a < r ∧ I 7 r 0 = nI a) ∧ fr_nn (I 4 0 3) 201
def fr_wfs (k j : Nat) : Bool := (k == 0 && j == 4) || (k == 4 && j == 2) || (k == 4 && j == 3) || (k == 8 && j == 1) || (k == 7 && j == 0)
theorem fw_of {n : Nat} {I I' : fr_I} (key : ∀ a b c, fr_wfs a c = true → I' a b c = I a b c) (hw : fr_wf n I) : fr_wf n I' := by
  obtain ⟨h1, h2, h3, h4, h5, h6⟩ := hw
  exact ⟨h1, (key 0 0 4 rfl).trans h2, by rw [key 4 0 2 rfl]; exact h3, fun q hq => by rw [key 8 q 1 rfl]; exact h4 q hq, fun q hq => by rw [key 7 q 0 rfl]; exact h5 q hq, by rw [key 4 0 3 rfl]; exact h6⟩
theorem fw_ui {n : Nat} {I : fr_I} {k r j : Nat} {v : Int32} (h : fr_wfs k j = false) (hw : fr_wf n I) : fr_wf n (fr_ui I k r j v) :=
  fw_of (fun a b c hs => fr_ui_n (fun z => by rw [z.1, z.2.2, h] at hs; cases hs)) hw
theorem fw_cnt {n : Nat} {I : fr_I} (hw : fr_wf n I) : I 0 0 4 = nI n := hw.2.1
theorem fw_n8 {n : Nat} {I : fr_I} (hw : fr_wf n I) : n ≤ 8 := hw.1
theorem fw_lt8 {n r : Nat} {I : fr_I} (hw : fr_wf n I) (hr : r < n) : r < 8 := Nat.lt_of_lt_of_le hr hw.1
theorem fw_rec_eq {n : Nat} {I : fr_I} (hw : fr_wf n I) : I 4 0 2 = nI (I 4 0 2).toNatClampNeg := fr_nn_eq (by decide) hw.2.2.1
theorem fw_rec_lt {n : Nat} {I : fr_I} (hw : fr_wf n I) (h : ¬ (200 : Int32) ≤ I 4 0 2) : (I 4 0 2).toNatClampNeg < 200 := by
  obtain ⟨e, he, h2⟩ := hw.2.2.1
  rw [h2] at h ⊢
  rw [nI_clamp (by omega)]
  rcases Nat.lt_or_ge e 200 with h3 | h3
  · exact h3
  · exact absurd (nI_le h3 (by omega)) h
theorem fw_old_eq {n r : Nat} {I : fr_I} (hw : fr_wf n I) (hr : r < n) : I 8 r 1 = nI (I 8 r 1).toNatClampNeg := fr_nn_eq (by decide) (hw.2.2.2.1 r hr)
theorem fw_old_lt {n r : Nat} {I : fr_I} (hw : fr_wf n I) (hr : r < n) : (I 8 r 1).toNatClampNeg < 4 := fr_nn_lt (by decide) (hw.2.2.2.1 r hr)
theorem fr_and7 (x : Int32) : fr_nn (x &&& 7) 8 := by
  obtain ⟨j, hj, h⟩ := pk_andE x (m := 7) 3 (by decide)
  exact ⟨j, hj, h⟩
theorem fr_and7_eq (x : Int32) : x &&& 7 = nI (x &&& 7).toNatClampNeg := fr_nn_eq (by decide) (fr_and7 x)
theorem fr_and7_lt (x : Int32) : (x &&& 7).toNatClampNeg < 8 := fr_nn_lt (by decide) (fr_and7 x)
-- loops
def fr_it (f : fr_I → Nat → fr_I) (I : fr_I) : Nat → fr_I
  | 0 => I
  | i + 1 => f (fr_it f I i) i
theorem fw_it {P : fr_I → Prop} {I : fr_I} {f : fr_I → Nat → fr_I} (e : Nat) (hf : ∀ I i, i < e → P I → P (f I i)) (hw : P I) : ∀ i, i ≤ e → P (fr_it f I i) := by
  intro i
  induction i with
  | zero => intro _; exact hw
  | succ i ih => intro h; exact hf _ _ (by omega) (ih (by omega))
section FRloop
variable {X : fr_X} {E : fr_E} {own nm : String} {cc : ByteArray} {nL : Nat} {ret : Option FieldType} {R : Room} {Q : State → Prop} {cs sl : Nat} {Z : fr_Z} {pc : Nat} {L : List (Nat × Value)} {st : List Value} {I : fr_I} {J : fr_J}
theorem fr_loop (it : Nat → fr_I) (jt : Nat → fr_J) (LL : Nat → List (Nat × Value)) (e : Nat) (h0 : L = LL 0) (hI : I = it 0) (hJ : J = jt 0) (he : fr_Ev X E own nm cc nL ret R Q cs sl Z pc (LL e) st (it e) (jt e))
    (hs : ∀ i, i < e → fr_Ev X E own nm cc nL ret R Q cs sl Z pc (LL (i + 1)) st (it (i + 1)) (jt (i + 1)) → fr_Ev X E own nm cc nL ret R Q cs sl Z pc (LL i) st (it i) (jt i)) : fr_Ev X E own nm cc nL ret R Q cs sl Z pc L st I J := by
  subst h0 hI hJ
  exact fr_down (P := fun i => fr_Ev X E own nm cc nL ret R Q cs sl Z pc (LL i) st (it i) (jt i)) e he hs 0 (Nat.zero_le _)
end FRloop
section FRpick
variable {X : fr_X} {E : fr_E} {own nm : String} {cc : ByteArray} {nL : Nat} {ret : Option FieldType} {R : Room} {Q : State → Prop} {cs sl : Nat} {Z : fr_Z} {pc : Nat} {L : List (Nat × Value)} {st : List Value} {I : fr_I} {J : fr_J}
theorem fr_pick {L' : List (Nat × Value)} (ks : List Nat) (h : lv_pick L ks = L') (kk : fr_Ev X E own nm cc nL ret R Q cs sl Z pc L' st I J) : fr_Ev X E own nm cc nL ret R Q cs sl Z pc L st I J :=
  fun C H locs ls hz hm hS hl => kk C H locs ls hz hm hS (lv_sub hl ks h)
theorem fr_eqI {I' : fr_I} {J' : fr_J} (hI : I = I') (hJ : J = J') (kk : fr_Ev X E own nm cc nL ret R Q cs sl Z pc L st I' J') : fr_Ev X E own nm cc nL ret R Q cs sl Z pc L st I J := by
  subst hI hJ; exact kk
end FRpick
def fr_jt (f : fr_I × fr_J → Nat → fr_I × fr_J) (s : fr_I × fr_J) : Nat → fr_I × fr_J
  | 0 => s
  | i + 1 => f (fr_jt f s i) i
theorem fw_jt {P : fr_I → Prop} {s : fr_I × fr_J} {f : fr_I × fr_J → Nat → fr_I × fr_J} (e : Nat) (hf : ∀ s i, i < e → P s.1 → P (f s i).1) (hw : P s.1) : ∀ i, i ≤ e → P (fr_jt f s i).1 := by
  intro i
  induction i with
  | zero => intro _; exact hw
  | succ i ih => intro h; exact hf _ _ (by omega) (ih (by omega))
theorem fr_pr1 {I I' : fr_I} {J J' : fr_J} {t : fr_I × fr_J} (h : t = (I, J)) : I = t.1 := by rw [h]
theorem fr_pr2 {I I' : fr_I} {J J' : fr_J} {t : fr_I × fr_J} (h : t = (I, J)) : J = t.2 := by rw [h]
theorem fr_nge {i e : Nat} (he : e < 2 ^ 31) (hi : i < e) : ¬ nI e ≤ nI i := nI_ge hi he
theorem fw_ite {c : Prop} [Decidable c] {P : fr_I → Prop} {A B : fr_I} (h1 : c → P A) (h2 : ¬ c → P B) : P (if c then A else B) := by
  by_cases h : c
  · rw [if_pos h]; exact h1 h
  · rw [if_neg h]; exact h2 h
theorem fw_ite_2 {c : Prop} [Decidable c] {P : fr_I → Prop} {α : Type} {A B : α × fr_I} (h1 : c → P A.2) (h2 : ¬ c → P B.2) : P (if c then A else B).2 := by
  by_cases h : c
  · rw [if_pos h]; exact h1 h
  · rw [if_neg h]; exact h2 h
theorem fw_ite_1 {c : Prop} [Decidable c] {P : fr_I → Prop} {β : Type} {A B : fr_I × β} (h1 : c → P A.1) (h2 : ¬ c → P B.1) : P (if c then A else B).1 := by
  by_cases h : c
  · rw [if_pos h]; exact h1 h
  · rw [if_neg h]; exact h2 h
theorem fw_ite_21 {c : Prop} [Decidable c] {P : fr_I → Prop} {α β : Type} {A B : α × fr_I × β} (h1 : c → P A.2.1) (h2 : ¬ c → P B.2.1) : P (if c then A else B).2.1 := by
  by_cases h : c
  · rw [if_pos h]; exact h1 h
  · rw [if_neg h]; exact h2 h
theorem fr_it_0 {f : fr_I → Nat → fr_I} {I : fr_I} : I = fr_it f I 0 := rfl
theorem fr_jt_1 {f : fr_I × fr_J → Nat → fr_I × fr_J} {I : fr_I} {J : fr_J} : I = (fr_jt f (I, J) 0).1 := rfl
theorem fr_jt_2 {f : fr_I × fr_J → Nat → fr_I × fr_J} {I : fr_I} {J : fr_J} : J = (fr_jt f (I, J) 0).2 := rfl
theorem fr_it_s {f : fr_I → Nat → fr_I} {I : fr_I} {i : Nat} : fr_it f I (i + 1) = f (fr_it f I i) i := rfl
theorem fr_jt_s {f : fr_I × fr_J → Nat → fr_I × fr_J} {s : fr_I × fr_J} {i : Nat} : fr_jt f s (i + 1) = f (fr_jt f s i) i := rfl
section FRteq
variable {X : fr_X} {E : fr_E} {own nm : String} {cc : ByteArray} {nL : Nat} {ret : Option FieldType} {R : Room} {Q : State → Prop} {cs sl : Nat} {Z : fr_Z} {pc : Nat} {L : List (Nat × Value)} {st : List Value} {I : fr_I} {J : fr_J}
theorem fr_teq {x x' : Int32} (h : x = x') (kk : fr_Ev X E own nm cc nL ret R Q cs sl Z pc L (.int x' :: st) I J) : fr_Ev X E own nm cc nL ret R Q cs sl Z pc L (.int x :: st) I J := by subst h; exact kk
end FRteq
theorem fw_pr {P : fr_I → Prop} {A : fr_I} {B : fr_J} (h : P A) : P (A, B).1 := h
/-- kept by every store into the class's own cells (kinds below 20), or into the reference's -/
def fr_cst (P : fr_I → Prop) : Prop := ∀ {I : fr_I} {k r j : Nat} {v : Int32}, k < 20 → P I → P (fr_ui I k r j v)
def fr_ost (P : fr_I → Prop) : Prop := ∀ {I : fr_I} {k r j : Nat} {v : Int32}, 20 ≤ k → P I → P (fr_ui I k r j v)
def fr_cstJ (P : fr_J → Prop) : Prop := ∀ {I : fr_J} {k r j : Nat} {v : Int64}, k < 20 → P I → P (fr_uj I k r j v)
def fr_ostJ (P : fr_J → Prop) : Prop := ∀ {I : fr_J} {k r j : Nat} {v : Int64}, 20 ≤ k → P I → P (fr_uj I k r j v)
theorem fw_jt2 {P : fr_J → Prop} {s : fr_I × fr_J} {f : fr_I × fr_J → Nat → fr_I × fr_J} (e : Nat) (hf : ∀ s i, i < e → P s.2 → P (f s i).2) (hw : P s.2) : ∀ i, i ≤ e → P (fr_jt f s i).2 := by
  intro i
  induction i with
  | zero => intro _; exact hw
  | succ i ih => intro h; exact hf _ _ (by omega) (ih (by omega))
theorem fw_iteJ_2 {c : Prop} [Decidable c] {P : fr_J → Prop} {α : Type} {A B : α × fr_J} (h1 : c → P A.2) (h2 : ¬ c → P B.2) : P (if c then A else B).2 := by
  by_cases h : c
  · rw [if_pos h]; exact h1 h
  · rw [if_neg h]; exact h2 h
theorem fw_iteJ {c : Prop} [Decidable c] {P : fr_J → Prop} {A B : fr_J} (h1 : c → P A) (h2 : ¬ c → P B) : P (if c then A else B) := by
  by_cases h : c
  · rw [if_pos h]; exact h1 h
  · rw [if_neg h]; exact h2 h
theorem fw_iteJ_22 {c : Prop} [Decidable c] {P : fr_J → Prop} {α β : Type} {A B : α × β × fr_J} (h1 : c → P A.2.2) (h2 : ¬ c → P B.2.2) : P (if c then A else B).2.2 := by
  by_cases h : c
  · rw [if_pos h]; exact h1 h
  · rw [if_neg h]; exact h2 h
theorem fw_pr2 {P : fr_J → Prop} {A : fr_I} {B : fr_J} (h : P B) : P (A, B).2 := h
