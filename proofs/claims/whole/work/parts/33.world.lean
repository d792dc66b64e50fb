-- where a cell lies
def fr_adf (b k r : Nat) : Nat := b + fr_of k + (if fr_rk k = 1 then 7 * r else 0)
theorem fr_rk1 {k : Nat} (h : fr_rk k = 1) : k = 7 ∨ k = 8 ∨ k = 9 ∨ k = 10 ∨ k = 11 ∨ k = 12 ∨ k = 13 := by
  unfold fr_rk at h
  split at h <;> first | (exfalso; revert h; decide) | simp
theorem fr_P0_s {n k r j : Nat} (h : k ≠ 1) : fr_P0 (n + 1) k r j = fr_P0 n k r j := by
  unfold fr_P0
  split <;> first | rfl | exact absurd rfl h
theorem fm_m8 {m : Nat} {x : Int32} (hc : x = nI m) (hm : m ≤ 8) (h : ¬ x = 8) : m < 8 := by
  rcases Nat.lt_or_ge m 8 with h1 | h1
  · exact h1
  · have : m = 8 := by omega
    exact absurd (by rw [hc, this]; rfl) h
/-- the world behind the making of relay n -/
def zz_rel (X : fr_X) (n : Nat) : fr_Z := zz_pr (zz_pr (zz_pr (zz_na (zz_pr (zz_na (zz_na (zz_pr (zz_na (zz_pr (zz_pr (zz_na (zz_na (zz_na (fr_Z0 X n) 7 n) 8 n) 9 n) 8 n 0 9 n) 7 n 1 8 n) 10 n) 7 n 2 10 n) 11 n) 12 n) 11 n 1 12 n) 13 n) 11 n 2 13 n) 7 n 3 11 n) 1 0 n 7 n
theorem zz_rel_sz (X : fr_X) (n : Nat) : (fr_Z0 X (n + 1)).2.2 = (zz_rel X n).2.2 := by
  show X.2.2.2 + 41 + 7 * (n + 1) = X.2.2.2 + 41 + 7 * n + 1 + 1 + 1 + 1 + 1 + 1 + 1
  omega
theorem zz_rel_lv (X : fr_X) (n k r : Nat) (h : (fr_Z0 X (n + 1)).2.1 k r) : (zz_rel X n).2.1 k r := by
  show (((((((fr_lv n k r ∨ (k = 7 ∧ r = n)) ∨ (k = 8 ∧ r = n)) ∨ (k = 9 ∧ r = n)) ∨ (k = 10 ∧ r = n)) ∨ (k = 11 ∧ r = n)) ∨ (k = 12 ∧ r = n)) ∨ (k = 13 ∧ r = n))
  rcases h with ⟨hk, hr⟩ | ⟨hk, hr⟩
  · by_cases e : r = n
    · subst e
      rcases fr_rk1 hk with h | h | h | h | h | h | h <;> simp [h]
    · have : fr_lv n k r := Or.inl ⟨hk, by omega⟩
      simp [this]
  · have : fr_lv n k r := Or.inr ⟨hk, hr⟩
    simp [this]
theorem zz_rel_p (X : fr_X) (n k r j : Nat) (h : (fr_Z0 X (n + 1)).2.1 k r) : (fr_Z0 X (n + 1)).1 k r j = (zz_rel X n).1 k r j := by
  show fr_P0 (n + 1) k r j = _
  simp only [zz_rel, zz_pr, zz_na, fr_up, fr_zp, fr_Z0]
  rcases h with ⟨hk, hr⟩ | ⟨hk, hr⟩
  · have h1 : k ≠ 1 := by rcases fr_rk1 hk with h | h | h | h | h | h | h <;> omega
    by_cases e : r = n
    · subst e
      rcases fr_rk1 hk with h | h | h | h | h | h | h <;> subst h
      · rcases j with _ | _ | _ | _ | j <;> simp [fr_P0, fr_r7]
      · rcases j with _ | j <;> simp [fr_P0, fr_r8]
      · simp [fr_P0]
      · simp [fr_P0]
      · rcases j with _ | _ | _ | j <;> simp [fr_P0, fr_r11]
      · simp [fr_P0]
      · simp [fr_P0]
    · rw [fr_P0_s h1]
      simp [e, h1]
  · subst hr
    by_cases h1 : k = 1
    · subst h1
      simp only [fr_P0]
      by_cases e : j = n
      · subst e; simp
      · simp only [e]
        by_cases e2 : j < n
        · have : j < n + 1 := by omega
          simp [e2, this]
        · have : ¬ j < n + 1 := by omega
          simp [e2, this]
    · rw [fr_P0_s h1]
      have hne : ∀ q, fr_rk q = 1 → k ≠ q := fun q hq e => by subst e; rw [hq] at hk; cases hk
      simp [h1, hne 7 rfl, hne 8 rfl, hne 9 rfl, hne 10 rfl, hne 11 rfl, hne 12 rfl, hne 13 rfl]
