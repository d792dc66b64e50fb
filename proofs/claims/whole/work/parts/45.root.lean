-- the root, bit by bit: K bits are left, a stands
def fr_rt (m : Nat) : Nat → Nat → Nat
  | 0, a => a
  | K + 1, a => if (a + 2 ^ K) * (a + 2 ^ K) ≤ m then fr_rt m K (a + 2 ^ K) else fr_rt m K a
theorem fr_rt_ok (m : Nat) : ∀ K a, a * a ≤ m → m < (a + 2 ^ K) * (a + 2 ^ K) → fr_rt m K a * fr_rt m K a ≤ m ∧ m < (fr_rt m K a + 1) * (fr_rt m K a + 1) := by
  intro K
  induction K with
  | zero => intro a h1 h2; exact ⟨h1, h2⟩
  | succ K ih =>
    intro a h1 h2
    unfold fr_rt
    split
    · rename_i h
      refine ih _ h ?_
      have e : a + 2 ^ (K + 1) = a + 2 ^ K + 2 ^ K := by rw [Nat.pow_succ]; omega
      rw [← e]; exact h2
    · rename_i h
      exact ih _ h1 (Nat.lt_of_not_le h)
theorem fr_rt_lt (m : Nat) : ∀ K a, fr_rt m K a < a + 2 ^ K := by
  intro K
  induction K with
  | zero => intro a; show a < a + 1; omega
  | succ K ih =>
    intro a
    unfold fr_rt
    have e : (2 : Nat) ^ (K + 1) = 2 ^ K + 2 ^ K := by rw [Nat.pow_succ]; omega
    split
    · have := ih (a + 2 ^ K); omega
    · have := ih a
      have : 0 < 2 ^ K := Nat.pow_pos (by decide)
      omega
theorem fr_rt_un {m x y : Nat} (h1 : x * x ≤ m) (h2 : m < (x + 1) * (x + 1)) (h3 : y * y ≤ m) (h4 : m < (y + 1) * (y + 1)) : x = y := by
  rcases Nat.lt_trichotomy x y with h | h | h
  · exact absurd (Nat.le_trans (Nat.mul_le_mul h h) h3) (Nat.not_le.mpr h2)
  · exact h
  · exact absurd (Nat.le_trans (Nat.mul_le_mul h h) h1) (Nat.not_le.mpr h4)
/-- the class's root (18 bits, of a quarter of the squares) is the reference's (21 bits) -/
theorem fr_rt_eq {m : Nat} (h : m < 2 ^ 36) : fr_rt m 18 0 = fr_rt m 21 0 := by
  have a := fr_rt_ok m 18 0 (Nat.zero_le _) (by simpa using h)
  have b := fr_rt_ok m 21 0 (Nat.zero_le _) (Nat.lt_of_lt_of_le h (by decide))
  exact fr_rt_un a.1 a.2 b.1 b.2
theorem lg_pos {x y : Int64} : 0 < lg_cmp x y ↔ y < x := lg_cmp_gt x y
theorem fr_rb_rt {m : Nat} (hm : m < 2 ^ 40) : ∀ K a, K ≤ 18 → a + 2 ^ K ≤ 2 ^ 18 → fr_rb (lN m) K (nI a) = nI (fr_rt m K a) := by
  intro K
  induction K with
  | zero => intro a _ _; rfl
  | succ K ih =>
    intro a hK ha
    have hp : (2 : Nat) ^ (K + 1) = 2 ^ K + 2 ^ K := by rw [Nat.pow_succ]; omega
    have hb : a + 2 ^ K < 2 ^ 18 := by
      have : 0 < 2 ^ K := Nat.pow_pos (by decide)
      omega
    have hsq : (a + 2 ^ K) * (a + 2 ^ K) < 2 ^ 36 := Nat.lt_of_lt_of_le (Nat.mul_lt_mul'' hb hb) (by decide)
    have hc : (nI a + fr_bt (K + 1)).toInt64 = lN (a + 2 ^ K) := by
      show (nI a + nI (2 ^ K)).toInt64 = _
      rw [nI_add, nI_l (by omega)]
    unfold fr_rb fr_rt
    rw [hc, lN_mul]
    by_cases h : (a + 2 ^ K) * (a + 2 ^ K) ≤ m
    · rw [if_pos h, if_neg (fun q => absurd ((pk_lLT (by omega) (by omega)).mp (lg_pos.mp q)) (by omega))]
      show fr_rb (lN m) K (nI a + nI (2 ^ K)) = _
      rw [nI_add]
      exact ih _ (by omega) (by omega)
    · rw [if_neg h, if_pos (lg_pos.mpr ((pk_lLT (by omega) (by omega)).mpr (by omega)))]
      exact ih _ (by omega) (by omega)
theorem fr_rl_rt {s : Nat} (hm : s < 2 ^ 40) : ∀ K e, K ≤ 21 → e + 2 ^ K ≤ 2 ^ 21 → fr_rl (lN s) K (lN e) = lN (fr_rt (s / 4) K e) := by
  intro K
  induction K with
  | zero => intro a _ _; rfl
  | succ K ih =>
    intro a hK ha
    have hp : (2 : Nat) ^ (K + 1) = 2 ^ K + 2 ^ K := by rw [Nat.pow_succ]; omega
    have hb : a + 2 ^ K < 2 ^ 21 := by
      have : 0 < 2 ^ K := Nat.pow_pos (by decide)
      omega
    have hsq : (a + 2 ^ K) * (a + 2 ^ K) < 2 ^ 42 := Nat.lt_of_lt_of_le (Nat.mul_lt_mul'' hb hb) (by decide)
    unfold fr_rl fr_rt
    have hc : (4 * (lN a + fr_bl2 (K + 1))) * (lN a + fr_bl2 (K + 1)) = lN (4 * ((a + 2 ^ K) * (a + 2 ^ K))) := by
      show (lN 4 * (lN a + lN (2 ^ K))) * (lN a + lN (2 ^ K)) = _
      rw [lN_add, lN_mul, lN_mul, Nat.mul_assoc]
    rw [hc]
    by_cases h : (a + 2 ^ K) * (a + 2 ^ K) ≤ s / 4
    · rw [if_pos h, if_neg (fun q => absurd ((pk_lLT (by omega) (by omega)).mp (lg_pos.mp q)) (by omega))]
      show fr_rl (lN s) K (lN a + lN (2 ^ K)) = _
      rw [lN_add]
      exact ih _ (by omega) (by omega)
    · rw [if_neg h, if_pos (lg_pos.mpr ((pk_lLT (by omega) (by omega)).mpr (by omega)))]
      exact ih _ (by omega) (by omega)
theorem rl_sq {x : Int32} {a : Nat} (h : x = nI a) (ha : a < 2 ^ 31) : x.toInt64 * x.toInt64 = lN (a * a) := by
  rw [h, nI_l ha, lN_mul]
/-- the sum of the squares, as a number -/
theorem rl_sum4 {x0 x1 x2 x3 : Int32} {a0 a1 a2 a3 : Nat} (h0 : x0 = nI a0) (h1 : x1 = nI a1) (h2 : x2 = nI a2) (h3 : x3 = nI a3) (b0 : a0 ≤ 176000) (b1 : a1 ≤ 176000) (b2 : a2 ≤ 176000) (b3 : a3 ≤ 176000) : (((0 + x0.toInt64 * x0.toInt64) + x1.toInt64 * x1.toInt64) + x2.toInt64 * x2.toInt64) + x3.toInt64 * x3.toInt64 = lN (a0 * a0 + a1 * a1 + a2 * a2 + a3 * a3) ∧ a0 * a0 + a1 * a1 + a2 * a2 + a3 * a3 < 2 ^ 38 := by
  have m : ∀ a : Nat, a ≤ 176000 → a * a ≤ 30976000000 := fun a h => Nat.mul_le_mul h h
  have q0 := m a0 b0
  have q1 := m a1 b1
  have q2 := m a2 b2
  have q3 := m a3 b3
  refine ⟨?_, by omega⟩
  rw [rl_sq h0 (by omega), rl_sq h1 (by omega), rl_sq h2 (by omega), rl_sq h3 (by omega), show (0 : Int64) = lN 0 from rfl, lN_add, lN_add, lN_add, lN_add]
  congr 1
  omega
/-- the class's root of four samples, as a number -/
theorem rl_rootC {I : fr_I} {r : Nat} {a0 a1 a2 a3 : Nat} (h0 : I 9 r 0 = nI a0) (h1 : I 9 r 1 = nI a1) (h2 : I 9 r 2 = nI a2) (h3 : I 9 r 3 = nI a3) (b0 : a0 ≤ 176000) (b1 : a1 ≤ 176000) (b2 : a2 ≤ 176000) (b3 : a3 ≤ 176000) : f_M_rootOfMeanSquare I r = nI (fr_rt ((a0 * a0 + a1 * a1 + a2 * a2 + a3 * a3) / 4) 18 0) := by
  obtain ⟨e, hlt⟩ := rl_sum4 h0 h1 h2 h3 b0 b1 b2 b3
  unfold f_M_rootOfMeanSquare
  rw [e, show (4 : Int64) = lN 4 from rfl, pk_lDiv (by omega) (by decide) (by decide)]
  exact fr_rb_rt (by omega) 18 0 (by decide) (by decide)
theorem rl_rootO {A : fr_I} {r : Nat} {a0 a1 a2 a3 : Nat} (h0 : A 54 0 (4 * r) = nI a0) (h1 : A 54 0 (4 * r + 1) = nI a1) (h2 : A 54 0 (4 * r + 2) = nI a2) (h3 : A 54 0 (4 * r + 3) = nI a3) (b0 : a0 ≤ 176000) (b1 : a1 ≤ 176000) (b2 : a2 ≤ 176000) (b3 : a3 ≤ 176000) : f_O_root A r = nI (fr_rt ((a0 * a0 + a1 * a1 + a2 * a2 + a3 * a3) / 4) 18 0) := by
  obtain ⟨e, hlt⟩ := rl_sum4 h0 h1 h2 h3 b0 b1 b2 b3
  unfold f_O_root
  rw [e, show (0 : Int64) = lN 0 from rfl, fr_rl_rt (by omega) 21 0 (by decide) (by decide), lN_i, fr_rt_eq (by omega)]
theorem rl_root {I : fr_I} {J : fr_J} {A : fr_I} {B : fr_J} {r : Nat} (ho : fr_nn (I 8 r 1) 4) (h1 : ∀ i, i < 4 → A 54 0 (4 * r + i) = I 9 r (((I 8 r 1).toNatClampNeg + i) % 4)) (h2 : ∀ i, i < 4 → fr_nn (I 9 r i) 176001) : f_M_rootOfMeanSquare I r = f_O_root A r ∧ ∃ e, e < 2 ^ 18 ∧ f_M_rootOfMeanSquare I r = nI e := by
  obtain ⟨a0, b0, c0⟩ := h2 0 (by decide)
  obtain ⟨a1, b1, c1⟩ := h2 1 (by decide)
  obtain ⟨a2, b2, c2⟩ := h2 2 (by decide)
  obtain ⟨a3, b3, c3⟩ := h2 3 (by decide)
  have hC := rl_rootC c0 c1 c2 c3 (by omega) (by omega) (by omega) (by omega)
  refine ⟨?_, _, ?_, hC⟩
  · obtain ⟨o, ho, he⟩ := ho
    have e0 := h1 0 (by decide)
    have e1 := h1 1 (by decide)
    have e2 := h1 2 (by decide)
    have e3 := h1 3 (by decide)
    rw [he, nI_clamp (by omega)] at e0 e1 e2 e3
    rw [hC]
    rcases (by omega : o = 0 ∨ o = 1 ∨ o = 2 ∨ o = 3) with h | h | h | h <;> subst h <;> simp at e0 e1 e2 e3
    · rw [rl_rootO (e0.trans c0) (e1.trans c1) (e2.trans c2) (e3.trans c3) (by omega) (by omega) (by omega) (by omega)]
    · rw [rl_rootO (e0.trans c1) (e1.trans c2) (e2.trans c3) (e3.trans c0) (by omega) (by omega) (by omega) (by omega)]
      congr 2; omega
    · rw [rl_rootO (e0.trans c2) (e1.trans c3) (e2.trans c0) (e3.trans c1) (by omega) (by omega) (by omega) (by omega)]
      congr 2; omega
    · rw [rl_rootO (e0.trans c3) (e1.trans c0) (e2.trans c1) (e3.trans c2) (by omega) (by omega) (by omega) (by omega)]
      congr 2; omega
  · have := fr_rt_lt ((a0 * a0 + a1 * a1 + a2 * a2 + a3 * a3) / 4) 18 0
    omega
