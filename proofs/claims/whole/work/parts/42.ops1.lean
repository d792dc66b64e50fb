theorem rl_mw1 {n : Nat} {I I1 : fr_I} (kO : rl_kO I I1) (h : fr_mw n I) : fr_mw n I1 := fm_of (fun a b c hs => kO a b c (by unfold fr_mws at hs; simp at hs; omega)) h
theorem op_I {c n T : Nat} {I I1 I2 : fr_I} {J : fr_J} (hT : T ≤ 20 * c) (hR : rl_all n T I J I J) (hE : T = 0 → rl_fre n I J) (kO : rl_kO I I1) (kC : rl_kC I1 I2) (hf : rl_fre n I1 J → rl_fre n I2 J) (step : rl_all n T I J I1 J → rl_all n T I1 J I2 J) : rl_inv (c + 1) n I2 J :=
  ⟨T, by omega, rl_glue kO (fun _ _ _ _ => rfl) kC (fun _ _ _ _ => rfl) hR step, fun z => hf ((hE z).congr kO (fun _ _ _ _ => rfl))⟩
theorem rl_one_off {T : Nat} {I I' : fr_I} {J J' : fr_J} {A A' : fr_I} {B B' : fr_J} {q : Nat} (hI : ∀ k j, 7 ≤ k → k ≤ 13 → I' k q j = I k q j) (hJ : J' 8 q 7 = J 8 q 7) (hA : ∀ k, k ≠ 54 → k ≠ 69 → k ≠ 70 → A' k 0 q = A k 0 q) (h54 : ∀ i, i < 4 → A' 54 0 (4 * q + i) = A 54 0 (4 * q + i)) (h69 : ∀ i, i < 16 → A' 69 0 (16 * q + i) = A 69 0 (16 * q + i)) (h70 : ∀ i, i < 16 → A' 70 0 (16 * q + i) = A 70 0 (16 * q + i)) (hB : B' 55 0 q = B 55 0 q) (h : rl_one T I J A B q) : rl_one T I' J' A' B' q := by
  have h1 : ∀ b, I' 7 q b = I 7 q b := fun b => hI 7 b (by decide) (by decide)
  have h2 : ∀ b, I' 8 q b = I 8 q b := fun b => hI 8 b (by decide) (by decide)
  have h3 : ∀ b, I' 9 q b = I 9 q b := fun b => hI 9 b (by decide) (by decide)
  have h4 : ∀ b, I' 10 q b = I 10 q b := fun b => hI 10 b (by decide) (by decide)
  have h5 : ∀ b, I' 11 q b = I 11 q b := fun b => hI 11 b (by decide) (by decide)
  have h6 : ∀ b, I' 12 q b = I 12 q b := fun b => hI 12 b (by decide) (by decide)
  have h7 : ∀ b, I' 13 q b = I 13 q b := fun b => hI 13 b (by decide) (by decide)
  have hr : f_M_rootOfMeanSquare I' q = f_M_rootOfMeanSquare I q := by unfold f_M_rootOfMeanSquare; simp only [h3]
  obtain ⟨hs, hv, hb, ⟨m1, m2, m3, m4, m5⟩, hw, ⟨u1, u2, u, u3, u4, u5⟩⟩ := h
  have hq : rl_qR A' q u = rl_qR A q u := by
    unfold rl_qR
    refine List.map_congr_left (fun i hi => ?_)
    have := List.mem_range.mp hi
    rw [h69 i (by omega), h70 i (by omega)]
  refine ⟨?_, ?_, ?_, ⟨?_, ?_, ?_, ?_, ?_⟩, ?_, ⟨?_, ?_, u, u3, ?_, ?_⟩⟩
  · unfold rl_set at hs ⊢
    simp only [h1, h2, h4, h5, hA 42 (by decide) (by decide) (by decide), hA 44 (by decide) (by decide) (by decide), hA 45 (by decide) (by decide) (by decide), hA 46 (by decide) (by decide) (by decide), hA 47 (by decide) (by decide) (by decide), hA 48 (by decide) (by decide) (by decide), hA 49 (by decide) (by decide) (by decide), hA 50 (by decide) (by decide) (by decide), hA 51 (by decide) (by decide) (by decide), hA 52 (by decide) (by decide) (by decide), hA 53 (by decide) (by decide) (by decide)]
    exact hs
  · unfold rl_val at hv ⊢
    simp only [h1, h2, h5]
    exact hv
  · unfold rl_brk at hb ⊢
    simp only [h4, hA 43 (by decide) (by decide) (by decide), hA 60 (by decide) (by decide) (by decide), hA 61 (by decide) (by decide) (by decide), hA 62 (by decide) (by decide) (by decide), hA 63 (by decide) (by decide) (by decide), hA 64 (by decide) (by decide) (by decide), hA 65 (by decide) (by decide) (by decide), hA 66 (by decide) (by decide) (by decide), hA 67 (by decide) (by decide) (by decide)]
    exact hb
  · rw [h2, hA 56 (by decide) (by decide) (by decide)]; exact m1
  · rw [hJ, hB]; exact m2
  · intro i hi; rw [h54 i hi, h2, h3]; exact m3 i hi
  · intro i hi; rw [h3]; exact m4 i hi
  · rw [h2, hr]; exact m5
  · unfold rl_wir at hw ⊢
    simp only [h2, h5, hA 57 (by decide) (by decide) (by decide), hA 58 (by decide) (by decide) (by decide), hA 59 (by decide) (by decide) (by decide), hA 71 (by decide) (by decide) (by decide), hA 72 (by decide) (by decide) (by decide)]
    exact hw
  · intro p hp; rw [h6]; exact u1 p hp
  · intro i hi; rw [h7]; exact u2 i hi
  · rw [hA 68 (by decide) (by decide) (by decide)]; exact u4
  · unfold rl_qC at u5 ⊢
    rw [hq, u5]
    simp only [h6, h7]
