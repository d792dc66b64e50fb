/-- both sides give an order to the breaker of r -/
theorem gv_gv {n C r : Nat} {K : Nat → Nat × Nat} {I : fr_I} {J : fr_J} {A : fr_I} {B : fr_J} {own v : Int32} (hov : v = if own = 0 then 2 else 1) (h : rl_al2 n C K I J A B) : rl_al2 n C K (f_B_giveOrder I r (I 0 0 5) own) J (f_O_give A r v) B := by
  have ht : A 20 0 1 = I 0 0 5 := h.2.2.2.1.trans h.2.2.1.symm
  refine bk_up (r := r) h (fun k a b hn => ?_) (fun k a b hn => ?_) (fun _ hb => ?_)
  · unfold f_B_giveOrder
    repeat rw [fr_ui_n (fun z => hn ⟨z.1, z.2.1, by omega⟩)]
  · unfold f_O_give
    repeat rw [fr_ui_n (fun z => hn ⟨by omega, z.2.2⟩)]
  · obtain ⟨b0, b2, b3, b5, b7, b8, b9, b10, b60⟩ := hb
    unfold f_B_giveOrder f_O_give rl_brk
    simp [fr_ui, b0, b2, b5, b8, b9, b10, ht, hov]
theorem tr_O {A : fr_I} {B : fr_J} {n r : Nat} (hk : A 47 0 r = 0 ∨ A 47 0 r = 1 ∨ A 47 0 r = 2) : f_O_trip A B n r = if A 56 0 r = 0 then A else if lg_cmp (B 55 0 r) (if A 47 0 r = 0 then (A 49 0 r).toInt64 else if A 47 0 r = 1 then (A 49 0 r).toInt64 * (A 48 0 r).toInt64 else (A 49 0 r).toInt64 * (A 48 0 r).toInt64 * (A 48 0 r).toInt64) < 0 then A else if A 43 0 r = 0 then A else if A 60 0 r = 0 then (if f_O_blocked A n r = 0 then f_O_note (f_O_give A r 1) 1 (nI r) else A) else A := by
  unfold f_O_trip
  rcases hk with h | h | h <;> rw [h] <;> simp
theorem ph_trip {n C r : Nat} {K : Nat → Nat × Nat} {I : fr_I} {J : fr_J} {A : fr_I} {B : fr_J} (hr : r < n) (hK : ∀ q, q < n → (K q).2 < 2 ^ 20) (h : rl_al2 n C K I J A B) : rl_al2 n C K (f_F_tripIfDue I J n r) J (f_O_trip A B n r) B := by
  obtain ⟨hs, hv, hb, hm, hwi, hq⟩ := h.2.2.2.2.2 r hr
  have hbl := rl_blocked hr hK h
  have ho := rl_ord hb
  have h10 : ¬ ((1 : Int32) = 0) := by decide
  have hgo : rl_al2 n C K (f_J_add ((f_B_giveOrder I r (I 0 0 5) 1)) 1 (nI r) ((f_B_giveOrder I r (I 0 0 5) 1) 0 0 5)) J (f_O_note (f_O_give A r 1) 1 (nI r)) B := ja_add 1 (nI r) (gv_gv (by decide) h)
  have hk : A 47 0 r = 0 ∨ A 47 0 r = 1 ∨ A 47 0 r = 2 := by rw [← hs.2.2.2.1]; exact hv.2.2.2.1
  rw [tr_O hk, ← hbl, ← hm.1, ← hm.2.1, ← hb.1, ← hs.2.2.2.1, ← hs.2.2.2.2.1, ← hs.2.2.2.2.2.1]
  simp only [ho.1]
  unfold f_F_tripIfDue f_M_isOverLimit f_B_takesOrder f_M_limit
  by_cases x1 : I 8 r 6 = 0
  · simp only [x1, if_true]; exact h
  · simp only [x1, if_false]
    generalize (lg_cmp (J 8 r 7) _) = lc
    by_cases x2 : lc < 0
    · simp only [x2, if_true]; exact h
    · by_cases x3 : I 10 r 0 = 0
      · simp only [x2, x3, h10, if_true, if_false]; exact h
      · by_cases x4 : I 10 r 6 = 0
        · by_cases x5 : f_F_isBlocked I n r = 0
          · simp only [x2, x3, x4, x5, h10, if_true, if_false]; exact hgo
          · simp only [x2, x3, x4, x5, h10, if_true, if_false]; exact h
        · simp only [x2, x3, x4, h10, if_true, if_false]; exact h
theorem ph_fail {n C r : Nat} {K : Nat → Nat × Nat} {I : fr_I} {J : fr_J} {A : fr_I} {B : fr_J} (hr : r < n) (h : rl_al2 n C K I J A B) : rl_al2 n C K (f_F_failIfDue I r) J (f_O_fail A r) B := by
  obtain ⟨hs, hv, hb, hm, hwi, hq⟩ := h.2.2.2.2.2 r hr
  have ho := rl_ord hb
  have h8 := h.1.1
  have h10 : ¬ ((1 : Int32) = 0) := by decide
  have ht : A 20 0 1 = I 0 0 5 := h.2.2.2.1.trans h.2.2.1.symm
  have hfa : rl_al2 n C K (f_J_add ((fr_ui I 10 r 3 1)) 6 (nI r) ((fr_ui I 10 r 3 1) 0 0 5)) J (f_O_note ((fr_ui A 62 0 r 1)) 6 (nI r)) B := by
    refine ja_add 6 (nI r) (bk_up (r := r) h (fun k a b hn => ?_) (fun k a b hn => ?_) (fun _ hb => ?_))
    · rw [fr_ui_n (fun z => hn ⟨z.1, z.2.1, by omega⟩)]
    · rw [fr_ui_n (fun z => hn ⟨by omega, z.2.2⟩)]
    · obtain ⟨b0, b2, b3, b5, b7, b8, b9, b10, b60⟩ := hb
      unfold rl_brk
      simp [fr_ui, b0, b2, b5, b7, b8, b9, b10, b60]
  unfold f_F_failIfDue f_O_fail f_B_isOverdue
  rw [ht, ← hm.1, ← hb.2.2.1, ← hb.2.2.2.2.1, ← hs.2.2.2.2.2.2.2.2.1]
  simp only [ho.1]
  have a7 : (f_J_add ((fr_ui I 10 r 3 1)) 6 (nI r) ((fr_ui I 10 r 3 1) 0 0 5)) 7 r 0 = I 7 r 0 := by
    rw [ja_k (by decide) (by decide) (by decide)]; simp [fr_ui]
  generalize hI1 : f_J_add ((fr_ui I 10 r 3 1)) 6 (nI r) ((fr_ui I 10 r 3 1) 0 0 5) = I1 at *
  generalize hA1 : f_O_note ((fr_ui A 62 0 r 1)) 6 (nI r) = A1 at *
  have hs1 := (hfa.2.2.2.2.2 r hr).1
  by_cases x1 : I 8 r 6 = 0
  · simp only [x1, if_true]
    by_cases x2 : I 10 r 6 = 0
    · simp only [x2, if_true]; exact h
    · simp only [x2, if_false]
      split
      · exact h
      · split
        · exact h
        · exact h
  · by_cases x2 : I 10 r 6 = 0
    · simp only [x1, x2, if_true, if_false]; exact h
    · by_cases x3 : I 0 0 5 - I 10 r 7 < I 7 r 6
      · by_cases x4 : I 10 r 3 = 0
        · simp only [x1, x2, x3, x4, if_true, if_false]; exact h
        · simp only [x1, x2, x3, x4, if_true, if_false]; exact h
      · by_cases x4 : I 10 r 3 = 0
        · simp only [x1, x2, x3, x4, h10, if_true, if_false]
          rw [← hs1.1]
          rcases h.1.2.2.2.2.1 r hr with ⟨_, z⟩ | ⟨a, ha, z⟩
          · rw [a7, z, if_pos rfl, if_pos (by decide)]; exact hfa
          · have hna : ¬ nI a < 0 := nI_pos (by omega)
            have hn1 : ¬ nI a = -1 := fun q => hna (by rw [q]; decide)
            rw [a7, z, if_neg hn1, if_neg hna, nI_clamp (by omega)]
            have hba := (hfa.2.2.2.2.2 a (by omega)).2.2.1
            have hoa := rl_ord hba
            rw [← hba.1]
            simp only [hoa.1]
            have hgo : rl_al2 n C K (f_J_add ((f_B_giveOrder I1 a (I1 0 0 5) 0)) 7 (nI a) ((f_B_giveOrder I1 a (I1 0 0 5) 0) 0 0 5)) J (f_O_note (f_O_give A1 a 2) 7 (nI a)) B := ja_add 7 (nI a) (gv_gv (by decide) hfa)
            unfold f_B_takesOrder
            by_cases y1 : I1 10 a 0 = 0
            · simp only [y1, if_true]; exact hfa
            · by_cases y2 : I1 10 a 6 = 0
              · simp only [y1, y2, h10, if_true, if_false]; exact hgo
              · simp only [y1, y2, if_true, if_false]; exact hfa
        · simp only [x1, x2, x3, x4, if_true, if_false]; exact h
