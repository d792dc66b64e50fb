/-- what a relay's memory of a message tells -/
theorem rl_mk_hold {x : Nat} (hx : x < 2 ^ 20) : ((nI (rl_mk x)) &&& 1 = 1 ↔ x % 2 = 1) ∧ (nI (rl_mk x) - nI (rl_mk x) / 2 * 2 = 1 ↔ x % 2 = 1) := by
  have hb : rl_mk x < 2 ^ 31 := by unfold rl_mk; omega
  have hm : rl_mk x % 2 = x % 2 := by unfold rl_mk; omega
  have h1 : nI (rl_mk x) &&& 1 = nI (x % 2) := by
    rw [pk_andN (by omega) (m := 1) 1 rfl]
    show nI (rl_mk x % 2) = _
    rw [hm]
  have h2 : nI (rl_mk x) - nI (rl_mk x) / 2 * 2 = nI (x % 2) := by
    have := pk_rem hb (d := 2) (by decide) (by decide)
    rw [hm] at this
    exact this
  rw [h1, h2]
  have : nI (x % 2) = 1 ↔ x % 2 = 1 := nI_eq (a := x % 2) (b := 1) (by omega) (by decide)
  exact ⟨this, this⟩
def rl_hb (I : fr_I) (r q : Nat) : Prop := I 7 q 0 = nI r ∧ ¬ f_W_holdsBack I q (I 0 0 5) = 0
theorem bl_one {I : fr_I} {r : Nat} : ∀ m i, (∃ q, i ≤ q ∧ q < i + m ∧ rl_hb I r q) → fr_bl I r m i = 1 := by
  intro m
  induction m with
  | zero => intro i ⟨q, h1, h2, _⟩; omega
  | succ m ih =>
    intro i ⟨q, h1, h2, h3⟩
    unfold fr_bl
    by_cases e : q = i
    · subst e
      rw [if_pos h3.1, if_neg h3.2]
    · have := ih (i + 1) ⟨q, by omega, by omega, h3⟩
      split
      · split
        · exact this
        · rfl
      · exact this
theorem bl_nil {I : fr_I} {r : Nat} : ∀ m i, (∀ q, i ≤ q → q < i + m → ¬ rl_hb I r q) → fr_bl I r m i = 0 := by
  intro m
  induction m with
  | zero => intro i _; rfl
  | succ m ih =>
    intro i h
    unfold fr_bl
    have := ih (i + 1) (fun q h1 h2 => h q (by omega) (by omega))
    split
    · rename_i h1
      split
      · exact this
      · rename_i h2
        exact absurd ⟨h1, h2⟩ (h i (Nat.le_refl _) (by omega))
    · exact this
def rl_hbO (A : fr_I) (r q : Nat) : Prop := A 42 0 q = nI r ∧ A 71 0 q - A 71 0 q / 2 * 2 = 1 ∧ ¬ 12 < A 20 0 1 - A 72 0 q
theorem fs_bl_1 {A : fr_I} {r q : Nat} {v : Int32} (h : rl_hbO A r q) : ¬ fs_O_blocked r A q v = 0 := by
  unfold fs_O_blocked
  split
  · rw [if_pos h.1, if_pos h.2.1, if_neg h.2.2]; decide
  · decide
theorem fs_bl_k {A : fr_I} {r q : Nat} {v : Int32} (h : ¬ v = 0) : ¬ fs_O_blocked r A q v = 0 := by
  unfold fs_O_blocked
  rw [if_neg h]; decide
theorem fs_bl_0 {A : fr_I} {r q : Nat} {v : Int32} (hv : v = 0) (h : ¬ rl_hbO A r q) : fs_O_blocked r A q v = 0 := by
  unfold fs_O_blocked
  rw [if_pos hv]
  split
  · split
    · split
      · rfl
      · rename_i a b c; exact absurd ⟨a, b, c⟩ h
    · rfl
  · rfl
theorem fr_vt_b1 {A : fr_I} {r : Nat} : ∀ n, (∃ q, q < n ∧ rl_hbO A r q) → ¬ fr_vt (fs_O_blocked r A) 0 n = 0 := by
  intro n
  induction n with
  | zero => intro ⟨q, h, _⟩; omega
  | succ n ih =>
    intro ⟨q, h1, h2⟩
    rw [fr_vt_s]
    by_cases e : q = n
    · subst e; exact fs_bl_1 h2
    · exact fs_bl_k (ih ⟨q, by omega, h2⟩)
theorem fr_vt_b0 {A : fr_I} {r : Nat} : ∀ n, (∀ q, q < n → ¬ rl_hbO A r q) → fr_vt (fs_O_blocked r A) 0 n = 0 := by
  intro n
  induction n with
  | zero => intro _; rfl
  | succ n ih =>
    intro h
    rw [fr_vt_s]
    exact fs_bl_0 (ih (fun q hq => h q (by omega))) (h n (by omega))
theorem rl_hb_iff {n C : Nat} {K : Nat → Nat × Nat} {I : fr_I} {J : fr_J} {A : fr_I} {B : fr_J} {r q : Nat} (hq : q < n) (hK : (K q).2 < 2 ^ 20) (h : rl_al2 n C K I J A B) : rl_hb I r q ↔ rl_hbO A r q := by
  obtain ⟨hs, hv, hb, hm, ⟨w1, w2, w3, w4, w5, w6, ⟨x, hx, w7⟩, w8⟩, hqq⟩ := h.2.2.2.2.2 q hq
  have ht : I 0 0 5 = A 20 0 1 := h.2.2.1.trans h.2.2.2.1.symm
  have hk := rl_mk_hold (x := x) (by omega)
  unfold rl_hb rl_hbO f_W_holdsBack
  rw [← hs.1, ← w4, ← w5, ← ht, w7]
  by_cases e : x % 2 = 1
  · rw [if_pos (hk.1.mpr e)]
    by_cases g : 12 < I 0 0 5 - I 11 q 6
    · rw [if_pos g]; simp [g]
    · rw [if_neg g]; simp [g, hk.2.mpr e]
  · rw [if_neg (fun z => e (hk.1.mp z))]
    constructor
    · intro z; exact absurd rfl z.2
    · intro z; exact absurd (hk.2.mp z.2.1) e
theorem rl_blocked {n C : Nat} {K : Nat → Nat × Nat} {I : fr_I} {J : fr_J} {A : fr_I} {B : fr_J} {r : Nat} (hr : r < n) (hK : ∀ q, q < n → (K q).2 < 2 ^ 20) (h : rl_al2 n C K I J A B) : f_F_isBlocked I n r = f_O_blocked A n r := by
  unfold f_F_isBlocked f_O_blocked
  have hs := (h.2.2.2.2.2 r hr).1
  have h8 := h.1.1
  rw [← hs.2.2.2.2.2.2.1]
  by_cases e : I 7 r 4 = 0
  · rw [if_pos e, if_pos e]
  · rw [if_neg e, if_neg e]
    by_cases hx : ∃ q, q < n ∧ rl_hb I r q
    · obtain ⟨q, h1, h2⟩ := hx
      have h3 : r < q := by
        rcases h.1.2.2.2.2.1 q h1 with ⟨_, z⟩ | ⟨a, ha, z⟩
        · have hh := h2.1; rw [z] at hh
          exfalso
          have : ¬ nI r < 0 := nI_pos (by omega)
          rw [← hh] at this
          exact this (by decide)
        · have hh := h2.1; rw [z] at hh
          have := (nI_eq (by omega) (by omega)).mp hh
          omega
      rw [bl_one _ _ ⟨q, by omega, by omega, h2⟩, if_neg (fr_vt_b1 n ⟨q, h1, (rl_hb_iff h1 (hK q h1) h).mp h2⟩)]
    · rw [bl_nil _ _ (fun q h1 h2 z => hx ⟨q, by omega, z⟩), if_pos (fr_vt_b0 n (fun q hq z => hx ⟨q, hq, (rl_hb_iff hq (hK q hq) h).mpr z⟩))]
theorem rl_ord {I A : fr_I} {r : Nat} (h : rl_brk I A r) : (A 60 0 r = 0 ↔ I 10 r 6 = 0) ∧ (A 60 0 r ≤ 0 ↔ I 10 r 6 = 0) ∧ (A 60 0 r = 1 ↔ (¬ I 10 r 6 = 0 ∧ ¬ I 10 r 4 = 0)) := by
  obtain ⟨_, _, _, _, _, _, _, _, h⟩ := h
  rw [h]
  by_cases a : I 10 r 6 = 0
  · simp [a]
  · by_cases b : I 10 r 4 = 0
    · simp [a, b]
    · simp [a, b]
theorem rl_state {n C : Nat} {K : Nat → Nat × Nat} {I : fr_I} {J : fr_J} {A : fr_I} {B : fr_J} {r : Nat} (hr : r < n) (hK : ∀ q, q < n → (K q).2 < 2 ^ 20) (h : rl_al2 n C K I J A B) : f_F_state I n r = f_O_state A n r := by
  have hbl := rl_blocked hr hK h
  obtain ⟨hs, hv, hb, hm, hwi, hq⟩ := h.2.2.2.2.2 r hr
  have ho := rl_ord hb
  unfold f_F_state f_O_state f_B_bits
  rw [← hbl, ← hb.1, ← hm.1, ← hb.2.2.2.2.2.1, ← hb.2.1, ← hs.2.2.2.2.2.2.2.2.2.2.1]
  simp only [ho.2.1]
  by_cases a0 : I 10 r 0 = 0 <;> by_cases a1 : I 8 r 6 = 0 <;> by_cases a2 : I 10 r 6 = 0 <;> by_cases a3 : I 10 r 8 = 0 <;> by_cases a4 : I 10 r 2 = 0 <;> by_cases a5 : I 10 r 1 = 0 <;> by_cases a6 : f_F_isBlocked I n r = 0 <;> simp only [a0, a1, a2, a3, a4, a5, a6, if_true, if_false] <;> decide
