theorem ja_add {n C : Nat} {K : Nat → Nat × Nat} {I : fr_I} {J : fr_J} {A : fr_I} {B : fr_J} (p1 p2 : Int32) (h : rl_al2 n C K I J A B) : rl_al2 n C K (f_J_add I p1 p2 (I 0 0 5)) J (f_O_note A p1 p2) B := by
  have h' := h
  obtain ⟨hw, hm, t1, t2, ⟨j1, j2, j3, j4⟩, hq⟩ := h
  have f : ∀ k a b, k ≠ 4 → k ≠ 5 → k ≠ 6 → f_J_add I p1 p2 (I 0 0 5) k a b = I k a b := fun k a b h1 h2 h3 => ja_k h1 h2 h3
  have g : ∀ k a b, ¬ (k = 20 ∧ b = 33) → k ≠ 75 → k ≠ 76 → f_O_note A p1 p2 k a b = A k a b := fun k a b h1 h2 h3 => nt_k h1 h2 h3
  refine ⟨fw_J_add hw, fw_O_note hm, (f 0 0 5 (by decide) (by decide) (by decide)).trans t1, (g 20 0 1 (by decide) (by decide) (by decide)).trans t2, ?_, fun q hqn => ?_⟩
  · unfold f_J_add f_O_note rl_jou
    rw [← j1]
    by_cases e : 200 ≤ I 4 0 2
    · rw [if_pos e, if_pos e]; exact ⟨j1, j2, j3, j4⟩
    · rw [if_neg e, if_neg e]
      refine ⟨?_, ?_, fun i => ?_, fun i => ?_⟩
      · simp [fr_ui, j1]
      · simp [fr_ui, j2]
      · simp only [fr_ui]
        simp
        split
        · rfl
        · exact j3 i
      · simp only [fr_ui]
        simp
        split
        · rw [t1, t2]
        · exact j4 i
  · exact on2_off (fun k j _ _ => f k q j (by omega) (by omega) (by omega)) rfl (fun k h1 h2 _ _ _ => g k 0 q (by omega) (by omega) (by omega)) (fun i _ => g 54 0 _ (by omega) (by decide) (by decide)) (fun i _ => g 69 0 _ (by omega) (by decide) (by decide)) (fun i _ => g 70 0 _ (by omega) (by decide) (by decide)) rfl (hq q hqn)
/-- conditions that the same stores of both sides keep -/
def lo_F (I : fr_I) (r : Nat) : fr_I :=
  if (f_B_mustClose I r (I 0 0 5)) = 0 then
    if (f_B_mustReclaim I r (I 0 0 5)) = 0 then
      I
    else
      (f_J_add ((fr_ui I 10 r 5 0)) 4 (nI r) ((fr_ui I 10 r 5 0) 0 0 5))
  else
    (f_J_add ((f_B_closeAgain I r (I 0 0 5))) 3 (nI r) ((f_B_closeAgain I r (I 0 0 5)) 0 0 5))
def hi_F (I : fr_I) (r : Nat) : fr_I :=
  if (I 10 r 4) = 0 then
    (f_J_add ((fr_ui (f_J_add ((f_B_open I r)) 2 (nI r) ((f_B_open I r) 0 0 5)) 10 r 2 1)) 5 (nI r) ((fr_ui (f_J_add ((f_B_open I r)) 2 (nI r) ((f_B_open I r) 0 0 5)) 10 r 2 1) 0 0 5))
  else
    if (if (I 7 r 5) ≤ (I 10 r 5) then (0 : Int32) else 1) = 0 then
      (f_J_add ((fr_ui (f_J_add ((f_B_open I r)) 2 (nI r) ((f_B_open I r) 0 0 5)) 10 r 2 1)) 5 (nI r) ((fr_ui (f_J_add ((f_B_open I r)) 2 (nI r) ((f_B_open I r) 0 0 5)) 10 r 2 1) 0 0 5))
    else
      (f_B_awaitClosing ((f_J_add ((f_B_open I r)) 2 (nI r) ((f_B_open I r) 0 0 5))) r ((f_J_add ((f_B_open I r)) 2 (nI r) ((f_B_open I r) 0 0 5)) 0 0 5))
theorem mv_F (I : fr_I) (r : Nat) : f_F_moveBreaker I r = if (f_B_mustOpen I r (I 0 0 5)) = 0 then lo_F I r else hi_F I r := rfl
def cl_O (I : fr_I) (r : Nat) : fr_I := (f_O_note ((fr_ui (fr_ui (fr_ui (fr_ui I 43 0 r 1) 63 0 r 0) 66 0 r (((fr_ui (fr_ui I 43 0 r 1) 63 0 r 0) 66 0 r) + 1)) 67 0 r (((fr_ui (fr_ui (fr_ui I 43 0 r 1) 63 0 r 0) 66 0 r (((fr_ui (fr_ui I 43 0 r 1) 63 0 r 0) 66 0 r) + 1)) 20 0 1) + 30))) 3 (nI r))
def rc_O (I : fr_I) (r : Nat) : fr_I :=
  if (I 66 0 r) ≤ 0 then
    I
  else
    if (I 43 0 r) = 0 then
      I
    else
      if (I 60 0 r) = 0 then
        if (I 20 0 1) < (I 67 0 r) then
          I
        else
          (f_O_note ((fr_ui I 66 0 r 0)) 4 (nI r))
      else
        I
def lo_O (I : fr_I) (r : Nat) : fr_I :=
  if (I 63 0 r) = 0 then
    rc_O I r
  else
    if (I 20 0 1) < (I 64 0 r) then
      rc_O I r
    else
      cl_O I r
def op_O (I : fr_I) (r : Nat) : fr_I := (f_O_note ((fr_ui (fr_ui I 43 0 r 0) 60 0 r 0)) 2 (nI r))
def lk_O (I : fr_I) (r : Nat) : fr_I := (f_O_note ((fr_ui (op_O I r) 65 0 r 1)) 5 (nI r))
def hi_O (I : fr_I) (r : Nat) : fr_I :=
  if (if (I 60 0 r) = 1 then (1 : Int32) else 0) = 0 then
    lk_O I r
  else
    if ((op_O I r) 51 0 r) ≤ ((op_O I r) 66 0 r) then
      lk_O I r
    else
      if ((fr_ui (op_O I r) 63 0 r 1) 66 0 r) = 0 then
        (fr_ui (fr_ui (op_O I r) 63 0 r 1) 64 0 r (((fr_ui (op_O I r) 63 0 r 1) 20 0 1) + 5))
      else
        (fr_ui (fr_ui (op_O I r) 63 0 r 1) 64 0 r (((fr_ui (op_O I r) 63 0 r 1) 20 0 1) + (if ((fr_ui (op_O I r) 63 0 r 1) 66 0 r) = 1 then (20 : Int32) else 50)))
theorem mv_O (I : fr_I) (r : Nat) : f_O_breaker I r = if (I 60 0 r) ≤ 0 then lo_O I r else if ((I 20 0 1) - (I 61 0 r)) < 2 then lo_O I r else if (I 44 0 r) = 0 then hi_O I r else lo_O I r := rfl
theorem lo_lo {n C r : Nat} {K : Nat → Nat × Nat} {I : fr_I} {J : fr_J} {A : fr_I} {B : fr_J} (hr : r < n) (h : rl_al2 n C K I J A B) : rl_al2 n C K (lo_F I r) J (lo_O A r) B := by
  obtain ⟨hs, hv, hb, hm, hwi, hq⟩ := h.2.2.2.2.2 r hr
  have ho := rl_ord hb
  have ht : A 20 0 1 = I 0 0 5 := h.2.2.2.1.trans h.2.2.1.symm
  have h10 : ¬ ((1 : Int32) = 0) := by decide
  have hcl : rl_al2 n C K (f_J_add ((f_B_closeAgain I r (I 0 0 5))) 3 (nI r) ((f_B_closeAgain I r (I 0 0 5)) 0 0 5)) J (cl_O A r) B := by
    refine ja_add 3 (nI r) (bk_up (r := r) h (fun k a b hn => ?_) (fun k a b hn => ?_) (fun _ hb => ?_))
    · unfold f_B_closeAgain
      repeat rw [fr_ui_n (fun z => hn ⟨z.1, z.2.1, by omega⟩)]
    · repeat rw [fr_ui_n (fun z => hn ⟨by omega, z.2.2⟩)]
    · obtain ⟨b0, b2, b3, b5, b7, b8, b9, b10, b60⟩ := hb
      unfold f_B_closeAgain rl_brk
      simp [fr_ui, b2, b3, b5, b7, b9, b60, ht]
  have hrc : rl_al2 n C K (f_J_add ((fr_ui I 10 r 5 0)) 4 (nI r) ((fr_ui I 10 r 5 0) 0 0 5)) J (f_O_note ((fr_ui A 66 0 r 0)) 4 (nI r)) B := by
    refine ja_add 4 (nI r) (bk_up (r := r) h (fun k a b hn => ?_) (fun k a b hn => ?_) (fun _ hb => ?_))
    · rw [fr_ui_n (fun z => hn ⟨z.1, z.2.1, by omega⟩)]
    · rw [fr_ui_n (fun z => hn ⟨by omega, z.2.2⟩)]
    · obtain ⟨b0, b2, b3, b5, b7, b8, b9, b10, b60⟩ := hb
      unfold rl_brk
      simp [fr_ui, b0, b2, b3, b7, b8, b9, b10, b60]
  obtain ⟨b0, b2, b3, b5, b7, b8, b9, b10, b60⟩ := hb
  have hrr : rl_al2 n C K (if (f_B_mustReclaim I r (I 0 0 5)) = 0 then I else (f_J_add ((fr_ui I 10 r 5 0)) 4 (nI r) ((fr_ui I 10 r 5 0) 0 0 5))) J (rc_O A r) B := by
    unfold f_B_mustReclaim rc_O
    rw [← b0, ← b5, ← b10, ht]
    simp only [ho.1]
    by_cases x1 : I 10 r 5 ≤ 0
    · simp only [x1, if_true]; exact h
    · by_cases x2 : I 10 r 0 = 0
      · simp only [x1, x2, if_true, if_false]; exact h
      · by_cases x3 : I 10 r 6 = 0
        · by_cases x4 : I 0 0 5 < I 10 r 10
          · simp only [x1, x2, x3, x4, if_true, if_false]; exact h
          · simp only [x1, x2, x3, x4, h10, if_true, if_false]; exact hrc
        · simp only [x1, x2, x3, if_true, if_false]; exact h
  unfold lo_F lo_O f_B_mustClose
  rw [← b8, ← b9, ht]
  by_cases x1 : I 10 r 8 = 0
  · simp only [x1, if_true]; exact hrr
  · by_cases x2 : I 0 0 5 < I 10 r 9
    · simp only [x1, x2, if_true, if_false]; exact hrr
    · simp only [x1, x2, h10, if_true, if_false]; exact hcl
theorem hi_hi {n C r : Nat} {K : Nat → Nat × Nat} {I : fr_I} {J : fr_J} {A : fr_I} {B : fr_J} (hr : r < n) (h6 : ¬ I 10 r 6 = 0) (h : rl_al2 n C K I J A B) : rl_al2 n C K (hi_F I r) J (hi_O A r) B := by
  obtain ⟨hs, hv, hb, hm, hwi, hq⟩ := h.2.2.2.2.2 r hr
  have ho := rl_ord hb
  have h10 : ¬ ((1 : Int32) = 0) := by decide
  have hop : rl_al2 n C K (f_J_add ((f_B_open I r)) 2 (nI r) ((f_B_open I r) 0 0 5)) J (op_O A r) B := by
    refine ja_add 2 (nI r) (bk_up (r := r) h (fun k a b hn => ?_) (fun k a b hn => ?_) (fun _ hb => ?_))
    · unfold f_B_open
      repeat rw [fr_ui_n (fun z => hn ⟨z.1, z.2.1, by omega⟩)]
    · repeat rw [fr_ui_n (fun z => hn ⟨by omega, z.2.2⟩)]
    · obtain ⟨b0, b2, b3, b5, b7, b8, b9, b10, b60⟩ := hb
      unfold f_B_open rl_brk
      simp [fr_ui, b2, b3, b5, b7, b8, b9, b10]
  have hlk : rl_al2 n C K (f_J_add ((fr_ui (f_J_add ((f_B_open I r)) 2 (nI r) ((f_B_open I r) 0 0 5)) 10 r 2 1)) 5 (nI r) ((fr_ui (f_J_add ((f_B_open I r)) 2 (nI r) ((f_B_open I r) 0 0 5)) 10 r 2 1) 0 0 5)) J (lk_O A r) B := by
    refine ja_add 5 (nI r) (bk_up (r := r) hop (fun k a b hn => ?_) (fun k a b hn => ?_) (fun _ hb => ?_))
    · rw [fr_ui_n (fun z => hn ⟨z.1, z.2.1, by omega⟩)]
    · rw [fr_ui_n (fun z => hn ⟨by omega, z.2.2⟩)]
    · obtain ⟨b0, b2, b3, b5, b7, b8, b9, b10, b60⟩ := hb
      unfold rl_brk
      generalize f_J_add ((f_B_open I r)) 2 (nI r) ((f_B_open I r) 0 0 5) = I1 at *
      generalize op_O A r = A1 at *
      simp [fr_ui, b0, b3, b5, b7, b8, b9, b10, b60]
  have hop' := hop
  obtain ⟨hs1, hv1, hb1, hm1, hwi1, hq1⟩ := hop'.2.2.2.2.2 r hr
  have e5 : (f_J_add ((f_B_open I r)) 2 (nI r) ((f_B_open I r) 0 0 5)) 10 r 5 = I 10 r 5 := by
    rw [ja_k (by decide) (by decide) (by decide)]; unfold f_B_open; simp [fr_ui]
  have e7 : (f_J_add ((f_B_open I r)) 2 (nI r) ((f_B_open I r) 0 0 5)) 7 r 5 = I 7 r 5 := by
    rw [ja_k (by decide) (by decide) (by decide)]; unfold f_B_open; simp [fr_ui]
  have et : (op_O A r) 20 0 1 = (f_J_add ((f_B_open I r)) 2 (nI r) ((f_B_open I r) 0 0 5)) 0 0 5 := hop.2.2.2.1.trans hop.2.2.1.symm
  unfold hi_F hi_O
  simp only [ho.2.2, h6]
  by_cases x1 : I 10 r 4 = 0
  · simp [x1]; exact hlk
  · simp only [x1]
    rw [← hs1.2.2.2.2.2.2.2.1, ← hb1.2.2.2.1, e5, e7]
    by_cases x2 : I 7 r 5 ≤ I 10 r 5
    · simp [x2]; exact hlk
    · simp [x2]
      generalize hI1 : f_J_add ((f_B_open I r)) 2 (nI r) ((f_B_open I r) 0 0 5) = I1 at *
      generalize hA1 : op_O A r = A1 at *
      have c1 : (fr_ui A1 63 0 r 1) 66 0 r = I1 10 r 5 := by simp [fr_ui]; exact hb1.2.2.2.1.symm
      have c2 : (fr_ui A1 63 0 r 1) 20 0 1 = I1 0 0 5 := by simp [fr_ui]; exact et
      rw [c1, c2]
      have hfin : ∀ v, v = f_B_pauseAfter I1 (I1 10 r 5) → rl_al2 n C K (f_B_awaitClosing I1 r (I1 0 0 5)) J (fr_ui (fr_ui A1 63 0 r 1) 64 0 r (I1 0 0 5 + v)) B := by
        intro v hv
        refine bk_up (r := r) hop (fun k a b hn => ?_) (fun k a b hn => ?_) (fun _ hb => ?_)
        · unfold f_B_awaitClosing
          repeat rw [fr_ui_n (fun z => hn ⟨z.1, z.2.1, by omega⟩)]
        · repeat rw [fr_ui_n (fun z => hn ⟨by omega, z.2.2⟩)]
        · obtain ⟨b0, b2, b3, b5, b7, b8, b9, b10, b60⟩ := hb
          have hp : f_B_pauseAfter (fr_ui I1 10 r 8 1) ((fr_ui I1 10 r 8 1) 10 r 5) = v := by
            rw [hv]; unfold f_B_pauseAfter; simp [fr_ui]
          unfold f_B_awaitClosing rl_brk
          rw [hp]
          simp [fr_ui, b0, b2, b3, b5, b7, b10, b60]
      by_cases x3 : I1 10 r 5 = 0
      · rw [if_pos x3]
        exact hfin 5 (by unfold f_B_pauseAfter; rw [if_pos x3])
      · rw [if_neg x3]
        exact hfin _ (by unfold f_B_pauseAfter; rw [if_neg x3])
theorem ph_move {n C r : Nat} {K : Nat → Nat × Nat} {I : fr_I} {J : fr_J} {A : fr_I} {B : fr_J} (hr : r < n) (h : rl_al2 n C K I J A B) : rl_al2 n C K (f_F_moveBreaker I r) J (f_O_breaker A r) B := by
  obtain ⟨hs, hv, hb, hm, hwi, hq⟩ := h.2.2.2.2.2 r hr
  have ho := rl_ord hb
  have ht : A 20 0 1 = I 0 0 5 := h.2.2.2.1.trans h.2.2.1.symm
  have h10 : ¬ ((1 : Int32) = 0) := by decide
  rw [mv_F, mv_O]
  unfold f_B_mustOpen
  rw [ht, ← hb.2.2.2.2.1, ← hs.2.2.2.2.2.2.2.2.2.2.1]
  simp only [ho.2.1]
  by_cases x1 : I 10 r 6 = 0
  · simp only [x1, if_true]; exact lo_lo hr h
  · by_cases x2 : I 10 r 1 = 0
    · by_cases x3 : I 0 0 5 - I 10 r 7 < 2
      · simp only [x1, x2, x3, if_true, if_false]; exact lo_lo hr h
      · simp only [x1, x2, x3, h10, if_true, if_false]; exact hi_hi hr x1 h
    · simp only [x1, x2, if_true, if_false]
      split
      · exact lo_lo hr h
      · exact lo_lo hr h
