-- what flows hangs on four arrays alone
theorem wy_c {A A' : fr_I} {r : Nat} (h42 : ∀ b, A' 42 0 b = A 42 0 b) (h43 : ∀ b, A' 43 0 b = A 43 0 b) : ∀ K u f x, fr_wy A' r K u f x = fr_wy A r K u f x := by
  intro K
  induction K with
  | zero => intro u f x; rfl
  | succ K ih =>
    intro u f x
    unfold fr_wy
    rw [h42, h43]
    split
    · rfl
    · exact ih _ _ _
theorem flow_c {A A' : fr_I} {n r : Nat} (h42 : ∀ b, A' 42 0 b = A 42 0 b) (h43 : ∀ b, A' 43 0 b = A 43 0 b) (h45 : ∀ b, A' 45 0 b = A 45 0 b) (h46 : ∀ b, A' 46 0 b = A 46 0 b) : f_O_flow A' n r = f_O_flow A n r := by
  unfold f_O_flow
  have : fs_O_flow r A' = fs_O_flow r A := by
    funext i v
    unfold fs_O_flow
    rw [wy_c h42 h43, h45, h46]
  rw [this]
theorem mc_k {I : fr_I} {r : Nat} {v : Int32} (k a b : Nat) (h1 : ¬ (k = 8 ∧ a = r ∧ (b = 1 ∨ b = 5 ∨ b = 6))) (h2 : ¬ (k = 9 ∧ a = r)) : mc_4 I r v k a b = I k a b := by
  unfold mc_4 mc_3 mc_2
  rw [fr_ui_n (fun z => h1 (by omega)), fr_ui_n (fun z => h1 (by omega)), fr_ui_n (fun z => h1 (by omega)), fr_ui_n (fun z => h2 (by omega))]
theorem mc_9 {I : fr_I} {r o : Nat} {v : Int32} (ho : I 8 r 1 = nI o) (ho4 : o < 4) (j : Nat) : mc_4 I r v 9 r j = if j = o then v else I 9 r j := by
  unfold mc_4 mc_3 mc_2
  rw [fr_ui_n (fun z => absurd z.1 (by decide)), fr_ui_n (fun z => absurd z.1 (by decide)), fr_ui_n (fun z => absurd z.1 (by decide)), ho, nI_clamp (by omega)]
  simp [fr_ui]
theorem mc_1 {I : fr_I} {r o : Nat} {v : Int32} (ho : I 8 r 1 = nI o) (ho4 : o < 4) : mc_4 I r v 8 r 1 = nI ((o + 1) % 4) := by
  unfold mc_4 mc_3 mc_2
  rw [fr_ui_n (fun z => absurd z.2.2 (by decide)), fr_ui_n (fun z => absurd z.2.2 (by decide)), fr_ui_s, fr_ui_n (fun z => absurd z.1 (by decide)), ho, nI_1]
  exact pk_rem (a := o + 1) (d := 4) (by omega) (by decide) (by decide)
theorem mc_rt {I : fr_I} {r : Nat} {v : Int32} : f_M_rootOfMeanSquare (mc_4 I r v) r = f_M_rootOfMeanSquare (mc_2 I r v) r := by
  have h : ∀ j, mc_4 I r v 9 r j = mc_2 I r v 9 r j := by
    intro j
    unfold mc_4 mc_3
    rw [fr_ui_n (fun z => absurd z.1 (by decide)), fr_ui_n (fun z => absurd z.1 (by decide))]
  unfold f_M_rootOfMeanSquare
  simp only [h]
theorem mc_5 {I : fr_I} {r : Nat} {v : Int32} : mc_4 I r v 8 r 5 = f_M_rootOfMeanSquare (mc_4 I r v) r := by
  rw [mc_rt]
  unfold mc_4 mc_3
  rw [fr_ui_n (fun z => absurd z.2.2 (by decide)), fr_ui_s]
theorem mc_6 {I : fr_I} {r : Nat} {v : Int32} : mc_4 I r v 8 r 6 = if f_M_rootOfMeanSquare (mc_4 I r v) r ≤ I 8 r 3 then 0 else 1 := by
  have h5 : mc_3 I r v 8 r 5 = f_M_rootOfMeanSquare (mc_4 I r v) r := by
    rw [mc_rt]; unfold mc_3; rw [fr_ui_s]
  have h3 : mc_3 I r v 8 r 3 = I 8 r 3 := by
    unfold mc_3 mc_2
    rw [fr_ui_n (fun z => absurd z.2.2 (by decide)), fr_ui_n (fun z => absurd z.2.2 (by decide)), fr_ui_n (fun z => absurd z.1 (by decide))]
  rw [← h5, ← h3]
  unfold mc_4
  rw [fr_ui_s]
theorem mo3_k {A : fr_I} {r : Nat} (k a b : Nat) (h : ¬ (k = 54 ∧ 4 * r ≤ b ∧ b < 4 * r + 3)) : mo_A3 A r k a b = A k a b := by
  unfold mo_A3
  rw [fr_ui_n (fun z => h (by omega)), fr_ui_n (fun z => h (by omega)), fr_ui_n (fun z => h (by omega))]
theorem mo_fl {A : fr_I} {n r : Nat} : f_O_flow (mo_A3 A r) n r = f_O_flow A n r :=
  flow_c (fun b => mo3_k _ _ _ (by omega)) (fun b => mo3_k _ _ _ (by omega)) (fun b => mo3_k _ _ _ (by omega)) (fun b => mo3_k _ _ _ (by omega))
theorem mo_k {A : fr_I} {n r : Nat} (k a b : Nat) (h : ¬ (k = 54 ∧ 4 * r ≤ b ∧ b < 4 * r + 4)) : mo_A A n r k a b = A k a b := by
  unfold mo_A
  rw [fr_ui_n (fun z => h (by omega)), mo3_k _ _ _ (by omega)]
theorem mo_54 {A : fr_I} {n r : Nat} (i : Nat) (hi : i < 4) : mo_A A n r 54 0 (4 * r + i) = if i = 3 then f_O_flow A n r else A 54 0 (4 * r + (i + 1)) := by
  unfold mo_A
  rw [mo_fl]
  rcases (by omega : i = 0 ∨ i = 1 ∨ i = 2 ∨ i = 3) with e | e | e | e <;> subst e
  · rw [fr_ui_n (fun z => by omega), if_neg (by decide)]
    unfold mo_A3
    rw [fr_ui_n (fun z => by omega), fr_ui_n (fun z => by omega)]
    simp [fr_ui]
  · rw [fr_ui_n (fun z => by omega), if_neg (by decide)]
    unfold mo_A3
    rw [fr_ui_n (fun z => by omega), fr_ui_s, fr_ui_n (fun z => by omega)]
  · rw [fr_ui_n (fun z => by omega), if_neg (by decide)]
    unfold mo_A3
    rw [fr_ui_s, fr_ui_n (fun z => by omega), fr_ui_n (fun z => by omega)]
  · rw [fr_ui_s, if_pos rfl]
theorem mr_k {Q : fr_I} {r u : Nat} (hu : Q 68 0 r = nI u) (hu8 : u < 16) (k a b : Nat) (h1 : ¬ ((56 ≤ k ∧ k ≤ 59 ∨ k = 68) ∧ b = r)) (h2 : ¬ ((k = 69 ∨ k = 70) ∧ 16 * r ≤ b ∧ b < 16 * r + 16)) : mo_R Q r k a b = Q k a b := by
  have hH : ∀ k a b, ¬ ((56 ≤ k ∧ k ≤ 59 ∨ k = 68) ∧ b = r) → mo_H Q r k a b = Q k a b := fun k a b h => by
    unfold mo_H
    rw [fr_ui_n (fun z => h (by omega)), fr_ui_n (fun z => h (by omega))]
  have hHu : mo_H Q r 68 0 r = nI u := by
    unfold mo_H
    rw [fr_ui_n (fun z => absurd z.1 (by decide)), fr_ui_n (fun z => absurd z.1 (by decide))]; exact hu
  have hG : ∀ (S : fr_I) (g : Int32), mo_G S r g k a b = S k a b := fun S g => by
    unfold mo_G
    rw [fr_ui_n (fun z => h1 (by omega)), fr_ui_n (fun z => h1 (by omega))]
  unfold mo_R
  split
  · split
    · split
      · rw [hG]; exact sO_k hu hu8 k a b (by omega) h2
      · rw [hG]; exact sO_k hu hu8 k a b (by omega) h2
    · rfl
  · rw [fr_ui_n (fun z => h1 (by omega)), fr_ui_n (fun z => h1 (by omega)), sO_k hHu hu8 k a b (by omega) h2, hH k a b h1]
/-- the relation of a relay that has measured, from its cells -/
theorem ms_on2 {T r : Nat} {I I' : fr_I} {J J' : fr_J} {A A' : fr_I} {B B' : fr_J} (h : rl_on2 (T, T + 1) I J A B r)
    (c7 : ∀ b, I' 7 r b = I 7 r b) (c8 : ∀ b, b ≠ 1 → b ≠ 5 → b ≠ 6 → I' 8 r b = I 8 r b) (c10 : ∀ b, I' 10 r b = I 10 r b) (c11 : ∀ b, b ≠ 4 → b ≠ 7 → b ≠ 8 → I' 11 r b = I 11 r b)
    (gA : ∀ k, (k ≤ 53 ∨ (60 ≤ k ∧ k ≤ 67) ∨ k = 71 ∨ k = 72) → A' k 0 r = A k 0 r)
    (m1 : I' 8 r 6 = A' 56 0 r) (m2 : J' 8 r 7 = B' 55 0 r) (m3 : ∀ i, i < 4 → A' 54 0 (4 * r + i) = I' 9 r (((I' 8 r 1).toNatClampNeg + i) % 4)) (m4 : ∀ i, i < 4 → fr_nn (I' 9 r i) 176001) (m5 : I' 8 r 5 = f_M_rootOfMeanSquare I' r)
    (w1 : I' 11 r 4 = A' 57 0 r) (w2 : I' 11 r 8 = A' 58 0 r) (w3 : I' 11 r 7 = A' 59 0 r) (w6 : ∃ q, q ≤ T + 1 ∧ I' 11 r 4 = nI q ∧ I' 8 r 6 = nI (q % 2))
    (w8 : ∃ d, I' 11 r 8 = nI d ∧ (d = 0 ∨ (T + 1 < d ∧ d ≤ T + 1 + 8 ∧ (I' 11 r 7 = 1 ∨ I' 11 r 7 = 2 ∨ I' 11 r 7 = 4 ∨ I' 11 r 7 = 8)))) (hq : rl_que (T + 1) I' A' r) : rl_on2 (T + 1, T + 1) I' J' A' B' r := by
  obtain ⟨hs, hv, hb, hme, ⟨x1, x2, x3, x4, x5, x6, x7, x8⟩, _⟩ := h
  refine ⟨?_, ?_, ?_, ⟨m1, m2, m3, m4, m5⟩, ⟨w1, w2, w3, ?_, ?_, w6, ?_, w8⟩, hq⟩
  · unfold rl_set at hs ⊢
    simp only [c7, c8 2 (by decide) (by decide) (by decide), c8 3 (by decide) (by decide) (by decide), c8 4 (by decide) (by decide) (by decide), c10, c11 3 (by decide) (by decide) (by decide), c11 0 (by decide) (by decide) (by decide), gA 42 (by decide), gA 44 (by decide), gA 45 (by decide), gA 46 (by decide), gA 47 (by decide), gA 48 (by decide), gA 49 (by decide), gA 50 (by decide), gA 51 (by decide), gA 52 (by decide), gA 53 (by decide)]
    exact hs
  · unfold rl_val at hv ⊢
    simp only [c7, c8 2 (by decide) (by decide) (by decide), c8 3 (by decide) (by decide) (by decide), c8 4 (by decide) (by decide) (by decide), c11 3 (by decide) (by decide) (by decide)]
    exact hv
  · unfold rl_brk at hb ⊢
    simp only [c10, gA 43 (by decide), gA 60 (by decide), gA 61 (by decide), gA 62 (by decide), gA 63 (by decide), gA 64 (by decide), gA 65 (by decide), gA 66 (by decide), gA 67 (by decide)]
    exact hb
  · rw [c11 5 (by decide) (by decide) (by decide), gA 71 (by decide)]; exact x4
  · rw [c11 6 (by decide) (by decide) (by decide), gA 72 (by decide)]; exact x5
  · rw [c11 5 (by decide) (by decide) (by decide)]; exact x7
