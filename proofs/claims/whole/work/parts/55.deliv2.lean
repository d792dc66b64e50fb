theorem fil_rot {α : Type} {P P' : α → Bool} {g g' : Nat → α} (hg : ∀ i, i < 7 → g' i = g (i + 1)) (hg7 : g' 7 = g 0) (hP : ∀ i, i < 8 → P (g i) = P' (g i)) (h0 : P' (g 0) = false) : ((List.range 8).map g).filter P = ((List.range 8).map g').filter P' := by
  have e1 : (List.range 8).map g = g 0 :: (List.range 7).map g' := by
    rw [show (8 : Nat) = 7 + 1 from rfl, List.range_succ_eq_map, List.map_cons, List.map_map]
    refine congrArg _ (List.map_congr_left (fun i hi => ?_))
    exact (hg i (List.mem_range.mp hi)).symm
  have e2 : (List.range 8).map g' = (List.range 7).map g' ++ [g 0] := by
    rw [show (8 : Nat) = 7 + 1 from rfl, List.range_succ, List.map_append]
    show _ ++ [g' 7] = _
    rw [hg7]
  have e3 : ((List.range 7).map g').filter P = ((List.range 7).map g').filter P' := by
    refine List.filter_congr (fun x hx => ?_)
    obtain ⟨i, hi, rfl⟩ := List.mem_map.mp hx
    have := List.mem_range.mp hi
    rw [hg i this]
    exact hP (i + 1) (by omega)
  rw [e1, e2, List.filter_append, List.filter_cons_of_neg (by rw [hP 0 (by decide), h0]; decide), e3, List.filter_cons_of_neg (by rw [h0]; decide)]
  simp
theorem ph_del {n T r : Nat} {K K' : Nat → Nat × Nat} {I : fr_I} {J : fr_J} {A : fr_I} {B : fr_J} (hT : T + 100 < 2 ^ 20) (hr : r < n) (hK : K r = (T, T)) (hK1 : K' r = (T, T + 1)) (hK2 : ∀ q, q ≠ r → K' q = K q) (h : rl_al2 n (T + 1) K I J A B) : rl_al2 n (T + 1) K' (f_W_deliver I r (I 0 0 5)) J (f_O_receive A r) B := by
  have hw' := fw_W_deliver (r := r) (p1 := I 0 0 5) h.1
  have hm' := fw_O_receive hr h.2.1
  have h8 := h.1.1
  have hr' := h.2.2.2.2.2 r hr
  rw [hK] at hr'
  have hqq := hr'.2.2.2.2.2
  obtain ⟨u1, u2, u, u3, u4, u5⟩ := hqq
  rw [h.2.2.1] at hw' ⊢
  obtain ⟨f, dk⟩ := dl_C (I := I) (r := r) (T := T) (by omega) 8 (Nat.le_refl _)
  have eO : f_O_receive A r = fr_ui (fr_rc r u 0 0 A).2 68 0 r (nI (fr_rc r u 0 0 A).1) := by
    unfold f_O_receive
    rw [u4, nI_clamp (by omega)]
  rw [eO] at hm' ⊢
  obtain ⟨g, dO, dq, dl⟩ := dl_O (r := r) (now := nI (T + 1)) u 0 0 A (Nat.le_refl _) (by omega) h.2.2.2.1
  have hsg : rl_sg A r 0 u = rl_qR A r u := by
    rw [rl_sg_eq]
    unfold rl_qR
    simp
  rw [hsg, u5] at dO dq
  unfold f_W_deliver at hw' ⊢
  generalize fr_it (fb_W_deliver r (nI (T + 1))) I 8 = I1 at *
  generalize fr_rc r u 0 0 A = R at *
  obtain ⟨l1, A1⟩ := R
  dsimp only at g dO dq dl hm' ⊢
  have gk : ∀ k a b, ¬ ((k = 68 ∨ k = 71 ∨ k = 72) ∧ b = r) → ¬ ((k = 69 ∨ k = 70) ∧ 16 * r ≤ b ∧ b < 16 * r + 16) → fr_ui A1 68 0 r (nI l1) k a b = A k a b := fun k a b h1 h2 => (fr_ui_n (fun z => h1 (by omega))).trans (g k a b (by omega) (by omega))
  refine al_up h hw' hm' (fun k a b hk => f k a b (by omega)) (fun _ _ => rfl) (fun k a b hk => gk k a b (by omega) (by omega)) (fun k b h1 h2 h3 h4 => gk k 0 b (by omega) (by omega)) (fun b hb => gk 54 0 b (by omega) (by omega)) (fun b hb => gk 69 0 b (by omega) (by omega)) (fun b hb => gk 70 0 b (by omega) (by omega)) (fun _ _ => rfl) hK2 (fun _ hh => ?_)
  rw [hK] at hh
  rw [hK1]
  obtain ⟨hs, hv, hb, hme, ⟨w1, w2, w3, w4, w5, w6, w7, w8⟩, _⟩ := hh
  have f7 : ∀ b, I1 7 r b = I 7 r b := fun b => f 7 r b (by omega)
  have f8 : ∀ b, I1 8 r b = I 8 r b := fun b => f 8 r b (by omega)
  have f9 : ∀ b, I1 9 r b = I 9 r b := fun b => f 9 r b (by omega)
  have f10 : ∀ b, I1 10 r b = I 10 r b := fun b => f 10 r b (by omega)
  have f12 : ∀ b, I1 12 r b = I 12 r b := fun b => f 12 r b (by omega)
  have f13 : ∀ b, I1 13 r b = I 13 r b := fun b => f 13 r b (by omega)
  have gm : ∀ k b, k < 68 → fr_ui A1 68 0 r (nI l1) k 0 b = A k 0 b := fun k b hk => gk k 0 b (by omega) (by omega)
  have g71 : fr_ui A1 68 0 r (nI l1) 71 0 r = A1 71 0 r := fr_ui_n (fun z => absurd z.1 (by decide))
  have g72 : fr_ui A1 68 0 r (nI l1) 72 0 r = A1 72 0 r := fr_ui_n (fun z => absurd z.1 (by decide))
  have hroot : f_M_rootOfMeanSquare I1 r = f_M_rootOfMeanSquare I r := by unfold f_M_rootOfMeanSquare; simp only [f9]
  -- what is learnt
  have hmem : ∀ e ∈ rl_qC I r T, (∃ m, m ≤ T ∧ e.2 = nI (rl_mk m)) := by
    intro e he
    unfold rl_qC at he
    obtain ⟨i, hi, rfl⟩ := List.mem_map.mp he
    exact u1 _ (Nat.mod_lt _ (by decide))
  have hfo : (A1 71 0 r, A1 72 0 r) = (I1 11 r 5, I1 11 r 6) ∧ ∃ k, k ≤ T ∧ I1 11 r 5 = nI (rl_mk k) := by
    have a1 := rl_fold_so (T := T) (by omega) (now := nI (T + 1)) ((rl_qC I r T).filter (fun e => decide (nI T < e.1))) (I 11 r 5, I 11 r 6) (fun e he => hmem e (List.mem_filter.mp he).1) w7
    have a2 : ((rl_qC I r T).filter (fun e => decide (nI T < e.1))).foldl (rl_st (nI (T + 1))) (I 11 r 5, I 11 r 6) = (rl_qC I r T).foldl (rl_st (nI (T + 1))) (I 11 r 5, I 11 r 6) := by
      refine rl_fold_fi _ _ (fun e he hn => ?_)
      rw [hn]
      exact decide_eq_true (nI_lt (by omega) (by omega))
    have a3 : (I1 11 r 5, I1 11 r 6) = (rl_qC I r T).foldl (rl_st (nI (T + 1))) (I 11 r 5, I 11 r 6) := dk
    rw [← w4, ← w5, ← a1.1, a2, ← a3] at dO
    rw [a2, ← a3] at a1
    exact ⟨dO, a1.2⟩
  obtain ⟨hfo1, hfo2⟩ := hfo
  have h71 := congrArg Prod.fst hfo1
  have h72 := congrArg Prod.snd hfo1
  dsimp only at h71 h72
  refine ⟨?_, ?_, ?_, ?_, ⟨?_, ?_, ?_, ?_, ?_, ?_, ?_, ?_⟩, ⟨?_, ?_, l1, ?_, ?_, ?_⟩⟩
  · unfold rl_set at hs ⊢
    simp only [f7, f8, f10, f 11 r 3 (by omega), f 11 r 0 (by omega), gm 42 r (by decide), gm 44 r (by decide), gm 45 r (by decide), gm 46 r (by decide), gm 47 r (by decide), gm 48 r (by decide), gm 49 r (by decide), gm 50 r (by decide), gm 51 r (by decide), gm 52 r (by decide), gm 53 r (by decide)]
    exact hs
  · unfold rl_val at hv ⊢
    simp only [f7, f8, f 11 r 3 (by omega)]
    exact hv
  · unfold rl_brk at hb ⊢
    simp only [f10, gm 43 r (by decide), gm 60 r (by decide), gm 61 r (by decide), gm 62 r (by decide), gm 63 r (by decide), gm 64 r (by decide), gm 65 r (by decide), gm 66 r (by decide), gm 67 r (by decide)]
    exact hb
  · unfold rl_met at hme ⊢
    simp only [f8, f9, hroot, gm 54 _ (by decide), gm 56 r (by decide)]
    exact hme
  · rw [f 11 r 4 (by omega), gm 57 r (by decide)]; exact w1
  · rw [f 11 r 8 (by omega), gm 58 r (by decide)]; exact w2
  · rw [f 11 r 7 (by omega), gm 59 r (by decide)]; exact w3
  · rw [g71]; exact h71.symm
  · rw [g72]; exact h72.symm
  · simp only [f 11 r 4 (by omega), f8]; exact w6
  · obtain ⟨k, hk, ek⟩ := hfo2
    exact ⟨k, by show k ≤ T + 1; omega, ek⟩
  · simp only [f 11 r 8 (by omega), f 11 r 7 (by omega)]; exact w8
  · intro p hp
    obtain ⟨q, hq, e⟩ := u1 p hp
    exact ⟨q, by show q ≤ T + 1; omega, by rw [f12]; exact e⟩
  · intro i hi
    show ∃ c, c ≤ T + 1 + 1 + i ∧ I1 13 r ((T + 1 + 1 + i) % 8) = nI c
    rw [f13]
    by_cases e : i = 7
    · subst e
      obtain ⟨c, hc, ec⟩ := u2 0 (by decide)
      exact ⟨c, by omega, by rw [show (T + 1 + 1 + 7) % 8 = (T + 1 + 0) % 8 by omega]; exact ec⟩
    · obtain ⟨c, hc, ec⟩ := u2 (i + 1) (by omega)
      exact ⟨c, by omega, by rw [show T + 1 + 1 + i = T + 1 + (i + 1) by omega]; exact ec⟩
  · omega
  · simp [fr_ui]
  · show rl_qR (fr_ui A1 68 0 r (nI l1)) r l1 = (rl_qC I1 r (T + 1)).filter (fun e => decide (nI (T + 1) < e.1))
    rw [rl_qR_c (A := A1) (fun i _ => ⟨fr_ui_n (fun z => absurd z.1 (by decide)), fr_ui_n (fun z => absurd z.1 (by decide))⟩), dq]
    show [] ++ _ = _
    rw [List.nil_append, List.filter_filter]
    unfold rl_qC
    refine fil_rot (fun i hi => ?_) ?_ (fun i hi => ?_) ?_
    · rw [f12, f13, show T + 1 + 1 + i = T + 1 + (i + 1) by omega]
    · rw [f12, f13, show (T + 1 + 1 + 7) % 8 = (T + 1 + 0) % 8 by omega]
    · obtain ⟨c, hc, ec⟩ := u2 i hi
      dsimp only
      rw [ec, Bool.eq_iff_iff]
      simp only [Bool.and_eq_true, decide_eq_true_eq, decide_not, Bool.not_eq_true', decide_eq_false_iff_not]
      rw [nI_ltI (by omega) (by omega), nI_ltI (by omega) (by omega), nI_eq (by omega) (by omega)]
      omega
    · obtain ⟨c, hc, ec⟩ := u2 0 (by decide)
      dsimp only
      rw [ec]
      exact decide_eq_false (nI_nlt (by omega) (by omega))
