def zz_e (X : fr_X) : fr_Z := (fun _ _ _ => none, fun _ _ => False, X.2.2.2)
def zz_F (X : fr_X) : fr_Z := (zz_pr (zz_pr (zz_na (zz_pr (zz_na (zz_na (zz_pr (zz_na (zz_pr (zz_na (zz_pr (zz_na (zz_na (zz_e X) 0 0) 1 0) 0 0 0 1 0) 2 0) 0 0 1 2 0) 3 0) 0 0 2 3 0) 4 0) 5 0) 4 0 0 5 0) 6 0) 4 0 1 6 0) 0 0 3 4 0)
def zz_O (X : fr_X) : fr_Z := (zz_pr (zz_na (zz_pr (zz_na (zz_pr (zz_na (zz_pr (zz_na (zz_pr (zz_na (zz_pr (zz_na (zz_pr (zz_na (zz_pr (zz_na (zz_pr (zz_na (zz_pr (zz_na (zz_pr (zz_na (zz_pr (zz_na (zz_pr (zz_na (zz_pr (zz_na (zz_pr (zz_na (zz_pr (zz_na (zz_pr (zz_na (zz_pr (zz_na (zz_pr (zz_na (zz_pr (zz_na (zz_pr (zz_na (zz_pr (zz_na (zz_pr (zz_na (zz_pr (zz_na (zz_pr (zz_na (zz_pr (zz_na (zz_pr (zz_na (zz_pr (zz_na (zz_pr (zz_na (zz_pr (zz_na (zz_pr (zz_na (zz_pr (zz_na (zz_pr (zz_na (zz_na (zz_F X) 20 0) 42 0) 20 0 2 42 0) 43 0) 20 0 3 43 0) 44 0) 20 0 4 44 0) 45 0) 20 0 5 45 0) 46 0) 20 0 6 46 0) 47 0) 20 0 7 47 0) 48 0) 20 0 8 48 0) 49 0) 20 0 9 49 0) 50 0) 20 0 10 50 0) 51 0) 20 0 11 51 0) 52 0) 20 0 12 52 0) 53 0) 20 0 13 53 0) 54 0) 20 0 14 54 0) 55 0) 20 0 15 55 0) 56 0) 20 0 16 56 0) 57 0) 20 0 17 57 0) 58 0) 20 0 18 58 0) 59 0) 20 0 19 59 0) 60 0) 20 0 20 60 0) 61 0) 20 0 21 61 0) 62 0) 20 0 22 62 0) 63 0) 20 0 23 63 0) 64 0) 20 0 24 64 0) 65 0) 20 0 25 65 0) 66 0) 20 0 26 66 0) 67 0) 20 0 27 67 0) 68 0) 20 0 28 68 0) 69 0) 20 0 29 69 0) 70 0) 20 0 30 70 0) 71 0) 20 0 31 71 0) 72 0) 20 0 32 72 0) 75 0) 20 0 35 75 0) 76 0) 20 0 36 76 0)
theorem fr_rk2 {k : Nat} (h : fr_rk k = 2) : k = 0 ∨ k = 1 ∨ k = 2 ∨ k = 3 ∨ k = 4 ∨ k = 5 ∨ k = 6 ∨ k = 20 ∨ k = 42 ∨ k = 43 ∨ k = 44 ∨ k = 45 ∨ k = 46 ∨ k = 47 ∨ k = 48 ∨ k = 49 ∨ k = 50 ∨ k = 51 ∨ k = 52 ∨ k = 53 ∨ k = 54 ∨ k = 55 ∨ k = 56 ∨ k = 57 ∨ k = 58 ∨ k = 59 ∨ k = 60 ∨ k = 61 ∨ k = 62 ∨ k = 63 ∨ k = 64 ∨ k = 65 ∨ k = 66 ∨ k = 67 ∨ k = 68 ∨ k = 69 ∨ k = 70 ∨ k = 71 ∨ k = 72 ∨ k = 75 ∨ k = 76 := by
  unfold fr_rk at h
  split at h <;> first | (exfalso; revert h; decide) | simp
theorem zz_O_lv (X : fr_X) (k r : Nat) (h : (fr_Z0 X 0).2.1 k r) : (zz_O X).2.1 k r := by
  show (((((((((((((((((((((((((((((((((((((((((False ∨ (k = 0 ∧ r = 0)) ∨ (k = 1 ∧ r = 0)) ∨ (k = 2 ∧ r = 0)) ∨ (k = 3 ∧ r = 0)) ∨ (k = 4 ∧ r = 0)) ∨ (k = 5 ∧ r = 0)) ∨ (k = 6 ∧ r = 0)) ∨ (k = 20 ∧ r = 0)) ∨ (k = 42 ∧ r = 0)) ∨ (k = 43 ∧ r = 0)) ∨ (k = 44 ∧ r = 0)) ∨ (k = 45 ∧ r = 0)) ∨ (k = 46 ∧ r = 0)) ∨ (k = 47 ∧ r = 0)) ∨ (k = 48 ∧ r = 0)) ∨ (k = 49 ∧ r = 0)) ∨ (k = 50 ∧ r = 0)) ∨ (k = 51 ∧ r = 0)) ∨ (k = 52 ∧ r = 0)) ∨ (k = 53 ∧ r = 0)) ∨ (k = 54 ∧ r = 0)) ∨ (k = 55 ∧ r = 0)) ∨ (k = 56 ∧ r = 0)) ∨ (k = 57 ∧ r = 0)) ∨ (k = 58 ∧ r = 0)) ∨ (k = 59 ∧ r = 0)) ∨ (k = 60 ∧ r = 0)) ∨ (k = 61 ∧ r = 0)) ∨ (k = 62 ∧ r = 0)) ∨ (k = 63 ∧ r = 0)) ∨ (k = 64 ∧ r = 0)) ∨ (k = 65 ∧ r = 0)) ∨ (k = 66 ∧ r = 0)) ∨ (k = 67 ∧ r = 0)) ∨ (k = 68 ∧ r = 0)) ∨ (k = 69 ∧ r = 0)) ∨ (k = 70 ∧ r = 0)) ∨ (k = 71 ∧ r = 0)) ∨ (k = 72 ∧ r = 0)) ∨ (k = 75 ∧ r = 0)) ∨ (k = 76 ∧ r = 0))
  rcases h with ⟨hk, hr⟩ | ⟨hk, hr⟩
  · omega
  · rcases fr_rk2 hk with h | h | h | h | h | h | h | h | h | h | h | h | h | h | h | h | h | h | h | h | h | h | h | h | h | h | h | h | h | h | h | h | h | h | h | h | h | h | h | h | h <;> simp [h, hr]
theorem zz_O_sz (X : fr_X) : (fr_Z0 X 0).2.2 = (zz_O X).2.2 := by
  show X.2.2.2 + 41 + 7 * 0 = X.2.2.2 + 1 + 1 + 1 + 1 + 1 + 1 + 1 + 1 + 1 + 1 + 1 + 1 + 1 + 1 + 1 + 1 + 1 + 1 + 1 + 1 + 1 + 1 + 1 + 1 + 1 + 1 + 1 + 1 + 1 + 1 + 1 + 1 + 1 + 1 + 1 + 1 + 1 + 1 + 1 + 1 + 1
  omega
set_option maxRecDepth 10000 in
set_option maxHeartbeats 4000000 in
theorem zz_O_p (X : fr_X) (k r j : Nat) (h : (fr_Z0 X 0).2.1 k r) : (fr_Z0 X 0).1 k r j = (zz_O X).1 k r j := by
  show fr_P0 0 k r j = _
  simp only [zz_O, zz_F, zz_e, zz_pr, zz_na, fr_up, fr_zp]
  rcases h with ⟨hk, hr⟩ | ⟨hk, hr⟩
  · omega
  · subst hr
    rcases fr_rk2 hk with h | h | h | h | h | h | h | h | h | h | h | h | h | h | h | h | h | h | h | h | h | h | h | h | h | h | h | h | h | h | h | h | h | h | h | h | h | h | h | h | h <;> subst h
    · simp only [fr_P0, fr_r0]
      split <;> simp_all
    · simp [fr_P0]
    · simp [fr_P0]
    · simp [fr_P0]
    · simp only [fr_P0, fr_r4]
      split <;> simp_all
    · simp [fr_P0]
    · simp [fr_P0]
    · simp only [fr_P0, fr_r20]
      split <;> simp_all
    · simp [fr_P0]
    · simp [fr_P0]
    · simp [fr_P0]
    · simp [fr_P0]
    · simp [fr_P0]
    · simp [fr_P0]
    · simp [fr_P0]
    · simp [fr_P0]
    · simp [fr_P0]
    · simp [fr_P0]
    · simp [fr_P0]
    · simp [fr_P0]
    · simp [fr_P0]
    · simp [fr_P0]
    · simp [fr_P0]
    · simp [fr_P0]
    · simp [fr_P0]
    · simp [fr_P0]
    · simp [fr_P0]
    · simp [fr_P0]
    · simp [fr_P0]
    · simp [fr_P0]
    · simp [fr_P0]
    · simp [fr_P0]
    · simp [fr_P0]
    · simp [fr_P0]
    · simp [fr_P0]
    · simp [fr_P0]
    · simp [fr_P0]
    · simp [fr_P0]
    · simp [fr_P0]
    · simp [fr_P0]
    · simp [fr_P0]
