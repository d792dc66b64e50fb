theorem cr_C {I : fr_I} {J : fr_J} {i : Nat} : fb_F_crash (I, J) i = (fr_ui (fr_ui (fr_ui (fr_ui (fr_ui (fr_ui (fr_ui (fr_ui (fr_ui (fr_ui (fr_ui (fr_ui (fr_ui (fr_ui (fr_ui (fr_ui (fr_ui (fr_ui (fr_ui (fr_ui (fr_ui I 9 i 0 0) 9 i 1 0) 9 i 2 0) 9 i 3 0) 8 i 5 0) 8 i 6 0) 13 i 0 0) 13 i 1 0) 13 i 2 0) 13 i 3 0) 13 i 4 0) 13 i 5 0) 13 i 6 0) 13 i 7 0) 11 i 4 0) 11 i 5 0) 11 i 8 0) 10 i 6 0) 10 i 8 0) 10 i 5 0) 10 i 2 (if I 10 i 0 = 0 then 1 else 0), fr_uj J 8 i 7 0) := by
  unfold fb_F_crash f_B_forget f_W_forget f_M_forget f_A_fill_9 f_A_fill_13
  simp [fr_ui]
theorem cr_k {I : fr_I} {J : fr_J} {i k a b : Nat} (h : k < 8 ∨ 13 < k ∨ k = 12 ∨ a ≠ i) : (fb_F_crash (I, J) i).1 k a b = I k a b := by
  rw [cr_C]
  dsimp only
  repeat rw [fr_ui_n (fun z => by omega)]
theorem cr_O {A : fr_I} {B : fr_J} {i : Nat} : fb_O_crash (A, B) i = (fr_ui (fr_ui (fr_ui (fr_ui (fr_ui (fr_ui (fr_ui (fr_ui (fr_ui (fr_ui (fr_ui (fr_ui (fr_ui A 54 0 (4 * i) 0) 54 0 (4 * i + 1) 0) 54 0 (4 * i + 2) 0) 54 0 (4 * i + 3) 0) 56 0 i 0) 57 0 i 0) 58 0 i 0) 68 0 i 0) 71 0 i 0) 60 0 i 0) 63 0 i 0) 66 0 i 0) 65 0 i (if A 43 0 i = 0 then 1 else 0), fr_uj B 55 0 i 0) := by
  unfold fb_O_crash
  simp [fr_ui]
theorem cr_j {A : fr_I} {B : fr_J} {i k a b : Nat} (h : k < 54 ∨ 71 < k ∨ (k ≠ 54 ∧ b ≠ i) ∨ (k = 54 ∧ (b < 4 * i ∨ 4 * i + 3 < b)) ∨ k = 69 ∨ k = 70) : (fb_O_crash (A, B) i).1 k a b = A k a b := by
  rw [cr_O]
  dsimp only
  repeat rw [fr_ui_n (fun z => by omega)]
theorem cr_root {I : fr_I} {r : Nat} (h : ∀ i, i < 4 → I 9 r i = 0) : f_M_rootOfMeanSquare I r = 0 := by
  unfold f_M_rootOfMeanSquare
  rw [h 0 (by decide), h 1 (by decide), h 2 (by decide), h 3 (by decide)]
  decide +kernel
theorem cr_one {T : Nat} {I : fr_I} {J : fr_J} {A : fr_I} {B : fr_J} {i : Nat} (hT : T < 2 ^ 31) (h : rl_one T I J A B i) : rl_one T (fb_F_crash (I, J) i).1 (fb_F_crash (I, J) i).2 (fb_O_crash (A, B) i).1 (fb_O_crash (A, B) i).2 i := by
  have n9 : ∀ p, p < 4 → (fb_F_crash (I, J) i).1 9 i p = 0 := by
    intro p hp
    rw [cr_C]
    rcases (by omega : p = 0 ∨ p = 1 ∨ p = 2 ∨ p = 3) with e | e | e | e <;> subst e <;> simp [fr_ui]
  have n13 : ∀ p, p < 8 → (fb_F_crash (I, J) i).1 13 i p = 0 := by
    intro p hp
    rw [cr_C]
    rcases (by omega : p = 0 ∨ p = 1 ∨ p = 2 ∨ p = 3 ∨ p = 4 ∨ p = 5 ∨ p = 6 ∨ p = 7) with e | e | e | e | e | e | e | e <;> subst e <;> simp [fr_ui]
  have n54 : ∀ p, p < 4 → (fb_O_crash (A, B) i).1 54 0 (4 * i + p) = 0 := by
    intro p hp
    rw [cr_O]
    rcases (by omega : p = 0 ∨ p = 1 ∨ p = 2 ∨ p = 3) with e | e | e | e <;> subst e <;> simp [fr_ui]
  have k12 : ∀ p, (fb_F_crash (I, J) i).1 12 i p = I 12 i p := fun p => cr_k (by omega)
  have k7 : ∀ p, (fb_F_crash (I, J) i).1 7 i p = I 7 i p := fun p => cr_k (by omega)
  obtain ⟨hs, hv, hb, hm, hwi, ⟨u1, u2, u, u3, u4, u5⟩⟩ := h
  refine ⟨?_, ?_, ?_, ⟨?_, ?_, ?_, ?_, ?_⟩, ?_, ⟨?_, ?_, 0, by omega, ?_, ?_⟩⟩
  · unfold rl_set at hs ⊢
    rw [cr_C, cr_O]
    simp [fr_ui] at hs ⊢
    exact hs
  · unfold rl_val at hv ⊢
    rw [cr_C]
    simp [fr_ui] at hv ⊢
    exact hv
  · obtain ⟨b0, b2, b3, b5, b7, b8, b9, b10, b60⟩ := hb
    unfold rl_brk
    rw [cr_C, cr_O]
    simp [fr_ui, b0, b3, b7, b9, b10]
  · rw [cr_C, cr_O]; simp [fr_ui]
  · rw [cr_C, cr_O]; simp [fr_uj]
  · intro p hp
    rw [n54 p hp, n9 _ (Nat.mod_lt _ (by decide))]
  · intro p hp
    rw [n9 p hp]; exact ⟨0, by decide, rfl⟩
  · rw [cr_root n9, cr_C]; simp [fr_ui]
  · unfold rl_wir at hwi ⊢
    rw [cr_C, cr_O]
    simp [fr_ui]
    exact ⟨hwi.2.2.1, hwi.2.2.2.2.1, ⟨0, by omega, rfl, rfl⟩, ⟨0, by omega, rfl⟩, 0, rfl, Or.inl rfl⟩
  · intro p hp; rw [k12]; exact u1 p hp
  · intro p hp; rw [n13 _ (Nat.mod_lt _ (by decide))]; exact ⟨0, by omega, rfl⟩
  · rw [cr_O]; simp [fr_ui]; rfl
  · show [] = _
    symm
    rw [List.filter_eq_nil_iff]
    intro e he
    unfold rl_qC at he
    obtain ⟨p, hp, rfl⟩ := List.mem_map.mp he
    show ¬ decide (nI T < (fb_F_crash (I, J) i).1 13 i ((T + 1 + p) % 8)) = true
    rw [n13 _ (Nat.mod_lt _ (by decide))]
    simp
    exact k2_le (nI_pos hT)
theorem cr_step {n T : Nat} {I : fr_I} {J : fr_J} {A : fr_I} {B : fr_J} {i : Nat} (hT : T < 2 ^ 31) (h : ∀ q, q < n → rl_one T I J A B q) : ∀ q, q < n → rl_one T (fb_F_crash (I, J) i).1 (fb_F_crash (I, J) i).2 (fb_O_crash (A, B) i).1 (fb_O_crash (A, B) i).2 q := by
  intro q hq
  by_cases e : q = i
  · subst e; exact cr_one hT (h q hq)
  · exact rl_one_off (fun k j _ _ => cr_k (by omega)) (by rw [cr_C]; exact fr_uj_n (fun z => e z.2.1)) (fun k _ _ _ => cr_j (by omega)) (fun p _ => cr_j (by omega)) (fun p _ => cr_j (by omega)) (fun p _ => cr_j (by omega)) (by rw [cr_O]; exact fr_uj_n (fun z => e z.2.2)) (h q hq)
theorem cr_loop {n T : Nat} {I : fr_I} {J : fr_J} {A : fr_I} {B : fr_J} (hT : T < 2 ^ 31) (h : ∀ q, q < n → rl_one T I J A B q) : ∀ i, (∀ q, q < n → rl_one T (fr_jt fb_F_crash (I, J) i).1 (fr_jt fb_F_crash (I, J) i).2 (fr_jt fb_O_crash (A, B) i).1 (fr_jt fb_O_crash (A, B) i).2 q) ∧ (∀ k a b, k < 8 → (fr_jt fb_F_crash (I, J) i).1 k a b = I k a b) ∧ (∀ k a b, (k < 54 ∨ 72 < k) → (fr_jt fb_O_crash (A, B) i).1 k a b = A k a b) := by
  intro i
  induction i with
  | zero => exact ⟨h, fun _ _ _ _ => rfl, fun _ _ _ _ => rfl⟩
  | succ i ih =>
    obtain ⟨i1, i2, i3⟩ := ih
    rw [fr_jt_s, fr_jt_s]
    generalize fr_jt fb_F_crash (I, J) i = s at *
    generalize fr_jt fb_O_crash (A, B) i = t at *
    obtain ⟨s1, s2⟩ := s
    obtain ⟨t1, t2⟩ := t
    exact ⟨cr_step hT i1, fun k a b hk => (cr_k (by omega)).trans (i2 k a b hk), fun k a b hk => (cr_j (by omega)).trans (i3 k a b hk)⟩
theorem rl_crash {n T : Nat} {I : fr_I} {J : fr_J} {A : fr_I} {B : fr_J} (hT : T < 2 ^ 31) (h : rl_all n T I J A B) : (f_F_crash I J n).1 = (f_O_crash A B n).1 ∧ rl_all n T (f_F_crash I J n).2.1 (f_F_crash I J n).2.2 (f_O_crash A B n).2.1 (f_O_crash A B n).2.2 := by
  have f1 := fw_F_crash (J := J) h.1
  have f2 := fw_O_crash (J := B) h.2.1
  obtain ⟨hw, hm, t1, t2, ⟨j1, j2, j3, j4⟩, hq⟩ := h
  have hq0 : ∀ q, q < n → rl_one T I J (fr_ui A 20 0 33 (A 20 0 34)) B q := fun q hqn =>
    on2_off (K := (T, T)) (fun _ _ _ _ => rfl) rfl (fun k _ _ _ _ _ => fr_ui_n (fun z => by omega)) (fun _ _ => fr_ui_n (fun z => absurd z.1 (by decide))) (fun _ _ => fr_ui_n (fun z => absurd z.1 (by decide))) (fun _ _ => fr_ui_n (fun z => absurd z.1 (by decide))) rfl (hq q hqn)
  obtain ⟨l1, l2, l3⟩ := cr_loop hT hq0 n
  have e1 : (f_F_crash I J n).1 = I 4 0 2 - I 4 0 3 := by
    show (fr_jt fb_F_crash (I, J) n).1 4 0 2 - (fr_jt fb_F_crash (I, J) n).1 4 0 3 = _
    rw [l2 4 0 2 (by decide), l2 4 0 3 (by decide)]
  refine ⟨?_, f1, f2, ?_, ?_, ⟨?_, ?_, fun i => ?_, fun i => ?_⟩, fun q hqn => ?_⟩
  · rw [e1, j1, j2]; rfl
  · show fr_ui (fr_jt fb_F_crash (I, J) n).1 4 0 2 ((fr_jt fb_F_crash (I, J) n).1 4 0 3) 0 0 5 = _
    rw [fr_ui_n (fun z => absurd z.1 (by decide)), l2 0 0 5 (by decide)]; exact t1
  · show (fr_jt fb_O_crash (fr_ui A 20 0 33 (A 20 0 34), B) n).1 20 0 1 = _
    rw [l3 20 0 1 (by decide), fr_ui_n (fun z => absurd z.2.2 (by decide))]; exact t2
  · show fr_ui (fr_jt fb_F_crash (I, J) n).1 4 0 2 ((fr_jt fb_F_crash (I, J) n).1 4 0 3) 4 0 2 = (fr_jt fb_O_crash (fr_ui A 20 0 33 (A 20 0 34), B) n).1 20 0 33
    rw [l3 20 0 33 (by decide), l2 4 0 3 (by decide)]
    simp [fr_ui]; exact j2
  · show fr_ui (fr_jt fb_F_crash (I, J) n).1 4 0 2 ((fr_jt fb_F_crash (I, J) n).1 4 0 3) 4 0 3 = (fr_jt fb_O_crash (fr_ui A 20 0 33 (A 20 0 34), B) n).1 20 0 34
    rw [l3 20 0 34 (by decide), fr_ui_n (fun z => absurd z.2.2 (by decide)), fr_ui_n (fun z => absurd z.2.2 (by decide)), l2 4 0 3 (by decide)]; exact j2
  · show fr_ui (fr_jt fb_F_crash (I, J) n).1 4 0 2 ((fr_jt fb_F_crash (I, J) n).1 4 0 3) 5 0 i = (fr_jt fb_O_crash (fr_ui A 20 0 33 (A 20 0 34), B) n).1 75 0 i
    rw [l3 75 0 i (by decide), fr_ui_n (fun z => absurd z.1 (by decide)), fr_ui_n (fun z => absurd z.1 (by decide)), l2 5 0 i (by decide)]; exact j3 i
  · show fr_ui (fr_jt fb_F_crash (I, J) n).1 4 0 2 ((fr_jt fb_F_crash (I, J) n).1 4 0 3) 6 0 i = (fr_jt fb_O_crash (fr_ui A 20 0 33 (A 20 0 34), B) n).1 76 0 i
    rw [l3 76 0 i (by decide), fr_ui_n (fun z => absurd z.1 (by decide)), fr_ui_n (fun z => absurd z.1 (by decide)), l2 6 0 i (by decide)]; exact j4 i
  · exact rl_one_off (fun k j h1 h2 => fr_ui_n (fun z => by omega)) rfl (fun _ _ _ _ => rfl) (fun _ _ => rfl) (fun _ _ => rfl) (fun _ _ => rfl) rfl (l1 q hqn)
theorem fre_crash {n : Nat} {A : fr_I} {B : fr_J} (h : rl_fre n A B) : rl_fre n (f_O_crash A B n).2.1 (f_O_crash A B n).2.2 := by
  have key : ∀ i, i ≤ n → rl_fre n (fr_jt fb_O_crash (fr_ui A 20 0 33 (A 20 0 34), B) i).1 (fr_jt fb_O_crash (fr_ui A 20 0 33 (A 20 0 34), B) i).2 := by
    intro i
    induction i with
    | zero => intro _; exact rl_fre_20 h
    | succ i ih =>
      intro hi
      have h1 := ih (by omega)
      rw [fr_jt_s]
      generalize fr_jt fb_O_crash (fr_ui A 20 0 33 (A 20 0 34), B) i = t at *
      obtain ⟨t1, t2⟩ := t
      intro q hq
      have g := h1 q hq
      exact ⟨fun k a1 a2 a3 a4 a5 => (cr_j (by omega)).trans (g.1 k a1 a2 a3 a4 a5), fun p hp => (cr_j (by omega)).trans (g.2.1 p hp), by rw [cr_O]; exact (fr_uj_n (fun z => by omega)).trans g.2.2⟩
  exact key n (Nat.le_refl _)
theorem op_crash (X : fr_X) {c : Nat} (hc : c < 512) (n : Nat) (I : fr_I) (J : fr_J) (h : rl_inv c n I J) : lx_P X (rl_inv (c + 1)) y_F_crash c_F_crash 2 (some .int) y_O_crash c_O_crash 4 (some .int) [] n I J := by
  obtain ⟨T, hT, hR, hZ⟩ := h
  have kO : rl_kO I (f_F_crash I J n).2.1 := fc_F_crash rl_kO_st (fun _ _ _ _ => rfl)
  have kOJ : rl_kOJ J (f_F_crash I J n).2.2 := fcj_F_crash rl_kOJ_st (fun _ _ _ _ => rfl)
  have kC : rl_kC (f_F_crash I J n).2.1 (f_O_crash (f_F_crash I J n).2.1 (f_F_crash I J n).2.2 n).2.1 := fc_O_crash rl_kC_st (fun _ _ _ _ => rfl)
  have kCJ : rl_kCJ (f_F_crash I J n).2.2 (f_O_crash (f_F_crash I J n).2.1 (f_F_crash I J n).2.2 n).2.2 := fcj_O_crash rl_kCJ_st (fun _ _ _ _ => rfl)
  have hA : rl_all n T I J (f_F_crash I J n).2.1 (f_F_crash I J n).2.2 := hR.congr (fun _ _ _ _ => rfl) (fun _ _ _ _ => rfl) kO kOJ
  exact lx_mk (ct_F_crash X n I J hR.1) (ct_O_crash X n _ _ hA.2.1) (by decide) (by decide) (rl_crash (by omega) hA).1 ⟨T, by omega, rl_glue kO kOJ kC kCJ hR (fun h => (rl_crash (by omega) h).2), fun z => fre_crash ((hZ z).congr kO kOJ)⟩
