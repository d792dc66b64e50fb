/-- the same relation inside a tick: S is the time of a relay's own line, T that of its messages -/
def rl_wi2 (S T : Nat) (I A : fr_I) (r : Nat) : Prop :=
  I 11 r 4 = A 57 0 r ∧ I 11 r 8 = A 58 0 r ∧ I 11 r 7 = A 59 0 r ∧ I 11 r 5 = A 71 0 r ∧ I 11 r 6 = A 72 0 r ∧ (∃ q, q ≤ S ∧ I 11 r 4 = nI q ∧ I 8 r 6 = nI (q % 2)) ∧ (∃ q, q ≤ T ∧ I 11 r 5 = nI (rl_mk q)) ∧
  (∃ d, I 11 r 8 = nI d ∧ (d = 0 ∨ (S < d ∧ d ≤ S + 8 ∧ (I 11 r 7 = 1 ∨ I 11 r 7 = 2 ∨ I 11 r 7 = 4 ∨ I 11 r 7 = 8))))
def rl_on2 (K : Nat × Nat) (I : fr_I) (J : fr_J) (A : fr_I) (B : fr_J) (r : Nat) : Prop := rl_set I A r ∧ rl_val I r ∧ rl_brk I A r ∧ rl_met I J A B r ∧ rl_wi2 K.1 K.2 I A r ∧ rl_que K.2 I A r
def rl_al2 (n C : Nat) (K : Nat → Nat × Nat) (I : fr_I) (J : fr_J) (A : fr_I) (B : fr_J) : Prop :=
  fr_wf n I ∧ fr_mw n A ∧ I 0 0 5 = nI C ∧ A 20 0 1 = nI C ∧ rl_jou I A ∧ ∀ r, r < n → rl_on2 (K r) I J A B r
theorem rl_in2 {n T : Nat} {I : fr_I} {J : fr_J} {A : fr_I} {B : fr_J} (h : rl_all n T I J A B) : rl_al2 n T (fun _ => (T, T)) I J A B := h
theorem rl_out2 {n T : Nat} {I : fr_I} {J : fr_J} {A : fr_I} {B : fr_J} (h : rl_al2 n T (fun _ => (T, T)) I J A B) : rl_all n T I J A B := h
theorem on2_off {K : Nat × Nat} {I I' : fr_I} {J J' : fr_J} {A A' : fr_I} {B B' : fr_J} {q : Nat} (hI : ∀ k j, 7 ≤ k → k ≤ 13 → I' k q j = I k q j) (hJ : J' 8 q 7 = J 8 q 7) (hA : ∀ k, 42 ≤ k → k ≤ 72 → k ≠ 54 → k ≠ 69 → k ≠ 70 → A' k 0 q = A k 0 q) (h54 : ∀ i, i < 4 → A' 54 0 (4 * q + i) = A 54 0 (4 * q + i)) (h69 : ∀ i, i < 16 → A' 69 0 (16 * q + i) = A 69 0 (16 * q + i)) (h70 : ∀ i, i < 16 → A' 70 0 (16 * q + i) = A 70 0 (16 * q + i)) (hB : B' 55 0 q = B 55 0 q) (h : rl_on2 K I J A B q) : rl_on2 K I' J' A' B' q := by
  have h1 : ∀ b, I' 7 q b = I 7 q b := fun b => hI 7 b (by decide) (by decide)
  have h2 : ∀ b, I' 8 q b = I 8 q b := fun b => hI 8 b (by decide) (by decide)
  have h3 : ∀ b, I' 9 q b = I 9 q b := fun b => hI 9 b (by decide) (by decide)
  have h4 : ∀ b, I' 10 q b = I 10 q b := fun b => hI 10 b (by decide) (by decide)
  have h5 : ∀ b, I' 11 q b = I 11 q b := fun b => hI 11 b (by decide) (by decide)
  have h6 : ∀ b, I' 12 q b = I 12 q b := fun b => hI 12 b (by decide) (by decide)
  have h7 : ∀ b, I' 13 q b = I 13 q b := fun b => hI 13 b (by decide) (by decide)
  have hr : f_M_rootOfMeanSquare I' q = f_M_rootOfMeanSquare I q := by unfold f_M_rootOfMeanSquare; simp only [h3]
  obtain ⟨hs, hv, hb, ⟨m1, m2, m3, m4, m5⟩, hw, ⟨u1, u2, u, u3, u4, u5⟩⟩ := h
  have hq : rl_qR A' q u = rl_qR A q u := by
    unfold rl_qR
    refine List.map_congr_left (fun i hi => ?_)
    have := List.mem_range.mp hi
    rw [h69 i (by omega), h70 i (by omega)]
  refine ⟨?_, ?_, ?_, ⟨?_, ?_, ?_, ?_, ?_⟩, ?_, ⟨?_, ?_, u, u3, ?_, ?_⟩⟩
  · unfold rl_set at hs ⊢
    simp only [h1, h2, h4, h5, hA 42 (by decide) (by decide) (by decide) (by decide) (by decide), hA 44 (by decide) (by decide) (by decide) (by decide) (by decide), hA 45 (by decide) (by decide) (by decide) (by decide) (by decide), hA 46 (by decide) (by decide) (by decide) (by decide) (by decide), hA 47 (by decide) (by decide) (by decide) (by decide) (by decide), hA 48 (by decide) (by decide) (by decide) (by decide) (by decide), hA 49 (by decide) (by decide) (by decide) (by decide) (by decide), hA 50 (by decide) (by decide) (by decide) (by decide) (by decide), hA 51 (by decide) (by decide) (by decide) (by decide) (by decide), hA 52 (by decide) (by decide) (by decide) (by decide) (by decide), hA 53 (by decide) (by decide) (by decide) (by decide) (by decide)]
    exact hs
  · unfold rl_val at hv ⊢
    simp only [h1, h2, h5]
    exact hv
  · unfold rl_brk at hb ⊢
    simp only [h4, hA 43 (by decide) (by decide) (by decide) (by decide) (by decide), hA 60 (by decide) (by decide) (by decide) (by decide) (by decide), hA 61 (by decide) (by decide) (by decide) (by decide) (by decide), hA 62 (by decide) (by decide) (by decide) (by decide) (by decide), hA 63 (by decide) (by decide) (by decide) (by decide) (by decide), hA 64 (by decide) (by decide) (by decide) (by decide) (by decide), hA 65 (by decide) (by decide) (by decide) (by decide) (by decide), hA 66 (by decide) (by decide) (by decide) (by decide) (by decide), hA 67 (by decide) (by decide) (by decide) (by decide) (by decide)]
    exact hb
  · rw [h2, hA 56 (by decide) (by decide) (by decide) (by decide) (by decide)]; exact m1
  · rw [hJ, hB]; exact m2
  · intro i hi; rw [h54 i hi, h2, h3]; exact m3 i hi
  · intro i hi; rw [h3]; exact m4 i hi
  · rw [h2, hr]; exact m5
  · unfold rl_wi2 at hw ⊢
    simp only [h2, h5, hA 57 (by decide) (by decide) (by decide) (by decide) (by decide), hA 58 (by decide) (by decide) (by decide) (by decide) (by decide), hA 59 (by decide) (by decide) (by decide) (by decide) (by decide), hA 71 (by decide) (by decide) (by decide) (by decide) (by decide), hA 72 (by decide) (by decide) (by decide) (by decide) (by decide)]
    exact hw
  · intro p hp; rw [h6]; exact u1 p hp
  · intro i hi; rw [h7]; exact u2 i hi
  · rw [hA 68 (by decide) (by decide) (by decide) (by decide) (by decide)]; exact u4
  · unfold rl_qC at u5 ⊢
    rw [hq, u5]
    simp only [h6, h7]
/-- only the breaker of r moves -/
theorem bk_up {n C r : Nat} {K : Nat → Nat × Nat} {I I' : fr_I} {J : fr_J} {A A' : fr_I} {B : fr_J} (h : rl_al2 n C K I J A B) (hI : ∀ k a b, ¬ (k = 10 ∧ a = r ∧ b ≠ 1) → I' k a b = I k a b) (hA : ∀ k a b, ¬ ((k = 43 ∨ (60 ≤ k ∧ k ≤ 67)) ∧ b = r) → A' k a b = A k a b) (hb : r < n → rl_brk I A r → rl_brk I' A' r) : rl_al2 n C K I' J A' B := by
  obtain ⟨hw, hm, t1, t2, ⟨j1, j2, j3, j4⟩, hq⟩ := h
  have f : ∀ k a b, k ≠ 10 → I' k a b = I k a b := fun k a b hk => hI k a b (fun z => hk z.1)
  have g : ∀ k a b, k ≠ 43 → (k < 60 ∨ 67 < k) → A' k a b = A k a b := fun k a b h1 h2 => hA k a b (fun z => by omega)
  refine ⟨fw_of (fun a b c hs => f a b c (fun z => by subst z; exact absurd hs (by unfold fr_wfs; simp))) hw, fm_of (fun a b c hs => g a b c (fun z => by subst z; exact absurd hs (by unfold fr_mws; simp)) (by unfold fr_mws at hs; simp at hs; omega)) hm, (f 0 0 5 (by decide)).trans t1, (g 20 0 1 (by decide) (by decide)).trans t2, ⟨?_, ?_, fun i => ?_, fun i => ?_⟩, fun q hqn => ?_⟩
  · rw [f 4 0 2 (by decide), g 20 0 33 (by decide) (by decide)]; exact j1
  · rw [f 4 0 3 (by decide), g 20 0 34 (by decide) (by decide)]; exact j2
  · rw [f 5 0 i (by decide), g 75 0 i (by decide) (by decide)]; exact j3 i
  · rw [f 6 0 i (by decide), g 76 0 i (by decide) (by decide)]; exact j4 i
  · by_cases e : q = r
    · subst e
      obtain ⟨hs, hv, hbk, hme, hwi, hqu⟩ := hq q hqn
      have h1 : ∀ b, I' 7 q b = I 7 q b := fun b => f 7 q b (by decide)
      have h2 : ∀ b, I' 8 q b = I 8 q b := fun b => f 8 q b (by decide)
      have h3 : ∀ b, I' 9 q b = I 9 q b := fun b => f 9 q b (by decide)
      have h4 : I' 10 q 1 = I 10 q 1 := hI 10 q 1 (fun z => z.2.2 rfl)
      have h5 : ∀ b, I' 11 q b = I 11 q b := fun b => f 11 q b (by decide)
      have h6 : ∀ b, I' 12 q b = I 12 q b := fun b => f 12 q b (by decide)
      have h7 : ∀ b, I' 13 q b = I 13 q b := fun b => f 13 q b (by decide)
      have hr : f_M_rootOfMeanSquare I' q = f_M_rootOfMeanSquare I q := by unfold f_M_rootOfMeanSquare; simp only [h3]
      refine ⟨?_, ?_, hb hqn hbk, ?_, ?_, ?_⟩
      · unfold rl_set at hs ⊢
        simp only [h1, h2, h4, h5, g 42 _ _ (by decide) (by decide), g 44 _ _ (by decide) (by decide), g 45 _ _ (by decide) (by decide), g 46 _ _ (by decide) (by decide), g 47 _ _ (by decide) (by decide), g 48 _ _ (by decide) (by decide), g 49 _ _ (by decide) (by decide), g 50 _ _ (by decide) (by decide), g 51 _ _ (by decide) (by decide), g 52 _ _ (by decide) (by decide), g 53 _ _ (by decide) (by decide)]
        exact hs
      · unfold rl_val at hv ⊢
        simp only [h1, h2, h5]
        exact hv
      · unfold rl_met at hme ⊢
        simp only [h2, h3, hr, g 54 _ _ (by decide) (by decide), g 56 _ _ (by decide) (by decide)]
        exact hme
      · unfold rl_wi2 at hwi ⊢
        simp only [h2, h5, g 57 _ _ (by decide) (by decide), g 58 _ _ (by decide) (by decide), g 59 _ _ (by decide) (by decide), g 71 _ _ (by decide) (by decide), g 72 _ _ (by decide) (by decide)]
        exact hwi
      · unfold rl_que rl_qR rl_qC at hqu ⊢
        simp only [h6, h7, g 68 _ _ (by decide) (by decide), g 69 _ _ (by decide) (by decide), g 70 _ _ (by decide) (by decide)]
        exact hqu
    · exact on2_off (fun k j _ _ => hI k q j (fun z => e z.2.1)) rfl (fun k _ _ _ _ _ => hA k 0 q (fun z => e z.2)) (fun i _ => g 54 _ _ (by decide) (by decide)) (fun i _ => g 69 _ _ (by decide) (by decide)) (fun i _ => g 70 _ _ (by decide) (by decide)) rfl (hq q hqn)
theorem ja_k {I : fr_I} {p1 p2 p3 : Int32} {k a b : Nat} (h : k ≠ 4) (h5 : k ≠ 5) (h6 : k ≠ 6) : f_J_add I p1 p2 p3 k a b = I k a b := by
  unfold f_J_add
  split
  · rfl
  · rw [fr_ui_n (fun z => h z.1), fr_ui_n (fun z => h6 z.1), fr_ui_n (fun z => h5 z.1)]
theorem nt_k {A : fr_I} {p1 p2 : Int32} {k a b : Nat} (h : ¬ (k = 20 ∧ b = 33)) (h5 : k ≠ 75) (h6 : k ≠ 76) : f_O_note A p1 p2 k a b = A k a b := by
  unfold f_O_note
  split
  · rfl
  · rw [fr_ui_n (fun z => h ⟨z.1, z.2.2⟩), fr_ui_n (fun z => h6 z.1), fr_ui_n (fun z => h5 z.1)]
