theorem qC_split (M : fr_I) (r T : Nat) : rl_qC M r T = (List.range 7).map (fun i => (M 13 r ((T + 1 + i) % 8), M 12 r ((T + 1 + i) % 8))) ++ [(M 13 r ((T + 1 + 7) % 8), M 12 r ((T + 1 + 7) % 8))] := by
  unfold rl_qC
  rw [show (8 : Nat) = 7 + 1 from rfl, List.range_succ, List.map_append]
  rfl
theorem que_c {T r : Nat} {I I' A A' : fr_I} (h12 : ∀ p, I' 12 r p = I 12 r p) (h13 : ∀ p, I' 13 r p = I 13 r p) (h68 : A' 68 0 r = A 68 0 r) (h69 : ∀ i, i < 16 → A' 69 0 (16 * r + i) = A 69 0 (16 * r + i)) (h70 : ∀ i, i < 16 → A' 70 0 (16 * r + i) = A 70 0 (16 * r + i)) (h : rl_que T I A r) : rl_que T I' A' r := by
  obtain ⟨u1, u2, u, u3, u4, u5⟩ := h
  refine ⟨fun p hp => ?_, fun i hi => ?_, u, u3, h68.trans u4, ?_⟩
  · rw [h12]; exact u1 p hp
  · rw [h13]; exact u2 i hi
  · rw [rl_qR_c (A := A) (fun i hi => ⟨h69 i (by omega), h70 i (by omega)⟩), u5]
    unfold rl_qC
    simp only [h12, h13]
theorem sC_eq {M : fr_I} {r T g : Nat} {msg : Int32} (hT : T + 100 < 2 ^ 20) (hg : M 11 r 3 = nI g) (hg8 : g ≤ 8) : f_W_send M r msg (nI (T + 1)) = fr_ui (fr_ui M 12 r ((T + 1) % 8) msg) 13 r ((T + 1) % 8) (nI (if g = 0 then 0 else T + 1 + g)) := by
  unfold f_W_send
  have hp : (f_W_placeOf M (nI (T + 1))).toNatClampNeg = (T + 1) % 8 := by
    unfold f_W_placeOf
    rw [pk_andN (by omega) 3 rfl, nI_clamp (by omega)]
  have h3 : fr_ui M 12 r ((T + 1) % 8) msg 11 r 3 = nI g := (fr_ui_n (fun z => absurd z.1 (by decide))).trans hg
  rw [hp, h3]
  by_cases e : g = 0
  · subst e; rw [if_pos rfl, if_pos (show nI 0 = 0 from rfl)]; rfl
  · rw [if_neg (nI_ne0 (by omega) (by omega)), if_neg e, nI_add]
theorem sO_no {A : fr_I} {r : Nat} (h : A 42 0 r < 0 ∨ A 53 0 r = 0) : f_O_send A r = A := by
  unfold f_O_send
  split
  · rfl
  · rename_i h1
    rw [if_pos (h.resolve_left h1)]
theorem sO_eq {A : fr_I} {r T g u : Nat} {msg : Int32} (hab : ¬ A 42 0 r < 0) (hg : A 53 0 r = nI g) (hg0 : g ≠ 0) (hg8 : g ≤ 8) (hu : A 68 0 r = nI u) (hu8 : u ≤ 8) (ht : A 20 0 1 = nI (T + 1)) (hm : 2 * A 57 0 r + (if A 56 0 r = 0 then (0 : Int32) else 1) = msg) : f_O_send A r = fr_ui (fr_ui (fr_ui A 69 0 (16 * r + u) (nI (T + 1 + g))) 70 0 (16 * r + u) msg) 68 0 r (nI (u + 1)) := by
  unfold f_O_send
  rw [if_neg hab, if_neg (by rw [hg]; exact nI_ne0 (by omega) (by omega)), hu, nI_clamp (by omega), ht, hg, nI_add]
  rw [show (fr_ui A 69 0 (16 * r + u) (nI (T + 1 + g))) 57 0 r = A 57 0 r from fr_ui_n (fun z => absurd z.1 (by decide)), show (fr_ui A 69 0 (16 * r + u) (nI (T + 1 + g))) 56 0 r = A 56 0 r from fr_ui_n (fun z => absurd z.1 (by decide)), hm]
  rw [show (fr_ui (fr_ui A 69 0 (16 * r + u) (nI (T + 1 + g))) 70 0 (16 * r + u) msg) 68 0 r = nI u from (fr_ui_n (fun z => absurd z.1 (by decide))).trans ((fr_ui_n (fun z => absurd z.1 (by decide))).trans hu), nI_1]
theorem sO_k {A : fr_I} {r u : Nat} (hu : A 68 0 r = nI u) (hu8 : u < 16) (k a b : Nat) (h1 : ¬ (k = 68 ∧ b = r)) (h2 : ¬ ((k = 69 ∨ k = 70) ∧ 16 * r ≤ b ∧ b < 16 * r + 16)) : f_O_send A r k a b = A k a b := by
  unfold f_O_send
  rw [hu, nI_clamp (by omega)]
  split
  · rfl
  · split
    · rfl
    · rw [fr_ui_n (fun z => h1 (by omega)), fr_ui_n (fun z => h2 (by omega)), fr_ui_n (fun z => h2 (by omega))]
/-- both sides send: the queue stays the ring's -/
theorem sd_que {M A : fr_I} {r T g x : Nat} {msg : Int32} (hT : T + 100 < 2 ^ 20) (hq : rl_que (T + 1) M A r) (hd : ∃ c, c ≤ T + 1 ∧ M 13 r ((T + 1) % 8) = nI c) (hg : M 11 r 3 = nI g) (hg8 : g ≤ 8) (hA53 : A 53 0 r = M 11 r 3) (hx : x ≤ T + 1) (hmsg : msg = nI (rl_mk x)) (hab : ¬ A 42 0 r < 0) (hmO : 2 * A 57 0 r + (if A 56 0 r = 0 then (0 : Int32) else 1) = msg) (ht : A 20 0 1 = nI (T + 1)) : rl_que (T + 1) (f_W_send M r msg (nI (T + 1))) (f_O_send A r) r := by
  obtain ⟨u1, u2, u, u3, u4, u5⟩ := hq
  obtain ⟨c0, hc0, ec0⟩ := hd
  rw [sC_eq hT hg hg8]
  have k12 : ∀ p, p ≠ (T + 1) % 8 → (fr_ui (fr_ui M 12 r ((T + 1) % 8) msg) 13 r ((T + 1) % 8) (nI (if g = 0 then 0 else T + 1 + g))) 12 r p = M 12 r p := fun p hp => (fr_ui_n (fun z => absurd z.1 (by decide))).trans (fr_ui_n (fun z => hp z.2.2))
  have k13 : ∀ p, p ≠ (T + 1) % 8 → (fr_ui (fr_ui M 12 r ((T + 1) % 8) msg) 13 r ((T + 1) % 8) (nI (if g = 0 then 0 else T + 1 + g))) 13 r p = M 13 r p := fun p hp => (fr_ui_n (fun z => hp z.2.2)).trans (fr_ui_n (fun z => absurd z.1 (by decide)))
  have e12 : (fr_ui (fr_ui M 12 r ((T + 1) % 8) msg) 13 r ((T + 1) % 8) (nI (if g = 0 then 0 else T + 1 + g))) 12 r ((T + 1) % 8) = msg := by simp [fr_ui]
  have e13 : (fr_ui (fr_ui M 12 r ((T + 1) % 8) msg) 13 r ((T + 1) % 8) (nI (if g = 0 then 0 else T + 1 + g))) 13 r ((T + 1) % 8) = nI (if g = 0 then 0 else T + 1 + g) := by simp [fr_ui]
  generalize fr_ui (fr_ui M 12 r ((T + 1) % 8) msg) 13 r ((T + 1) % 8) (nI (if g = 0 then 0 else T + 1 + g)) = M' at *
  have hc' : (if g = 0 then 0 else T + 1 + g) ≤ T + 9 := by split <;> omega
  have q1 : ∀ p, p < 8 → ∃ q, q ≤ T + 1 ∧ M' 12 r p = nI (rl_mk q) := by
    intro p hp
    by_cases e : p = (T + 1) % 8
    · subst e; exact ⟨x, hx, e12.trans hmsg⟩
    · rw [k12 p e]; exact u1 p hp
  have q2 : ∀ i, i < 8 → ∃ c, c ≤ T + 1 + 1 + i ∧ M' 13 r ((T + 1 + 1 + i) % 8) = nI c := by
    intro i hi
    by_cases e : i = 7
    · subst e
      refine ⟨if g = 0 then 0 else T + 1 + g, by omega, ?_⟩
      rw [show (T + 1 + 1 + 7) % 8 = (T + 1) % 8 by omega]; exact e13
    · rw [k13 _ (by omega)]; exact u2 i hi
  have L7 : (List.range 7).map (fun i => (M' 13 r ((T + 1 + 1 + i) % 8), M' 12 r ((T + 1 + 1 + i) % 8))) = (List.range 7).map (fun i => (M 13 r ((T + 1 + 1 + i) % 8), M 12 r ((T + 1 + 1 + i) % 8))) := by
    refine List.map_congr_left (fun i hi => ?_)
    have := List.mem_range.mp hi
    rw [k13 _ (by omega), k12 _ (by omega)]
  have old : rl_qR A r u = ((List.range 7).map (fun i => (M 13 r ((T + 1 + 1 + i) % 8), M 12 r ((T + 1 + 1 + i) % 8)))).filter (fun e => decide (nI (T + 1) < e.1)) := by
    rw [u5, qC_split, List.filter_append, show (T + 1 + 1 + 7) % 8 = (T + 1) % 8 by omega, ec0]
    have : ([(nI c0, M 12 r ((T + 1) % 8))]).filter (fun e => decide (nI (T + 1) < e.1)) = [] := by
      rw [List.filter_cons_of_neg (by simp; exact nI_le hc0 (by omega))]; rfl
    rw [this, List.append_nil]
  have new : (rl_qC M' r (T + 1)).filter (fun e => decide (nI (T + 1) < e.1)) = rl_qR A r u ++ (if g = 0 then [] else [(nI (T + 1 + g), msg)]) := by
    rw [qC_split, List.filter_append, L7, ← old, show (T + 1 + 1 + 7) % 8 = (T + 1) % 8 by omega, e12, e13]
    by_cases e : g = 0
    · subst e
      rw [if_pos rfl, if_pos rfl, List.filter_cons_of_neg (by simp; exact nI_le (by omega) (by omega))]; rfl
    · rw [if_neg e, if_neg e, List.filter_cons_of_pos (by simp; exact nI_lt (by omega) (by omega))]; rfl
  by_cases e : g = 0
  · subst e
    rw [sO_no (Or.inr (by rw [hA53, hg]; rfl))]
    refine ⟨q1, q2, u, u3, u4, ?_⟩
    rw [new, if_pos rfl, List.append_nil]
  · rw [sO_eq hab (hA53.trans hg) e hg8 u4 u3 ht hmO]
    rw [if_neg e] at new
    have len : u + 1 ≤ 8 := by
      have h1 := congrArg List.length new
      rw [List.length_append] at h1
      have h2 := List.length_filter_le (fun e => decide (nI (T + 1) < e.1)) (rl_qC M' r (T + 1))
      have h3 : (rl_qC M' r (T + 1)).length = 8 := by unfold rl_qC; simp
      have h4 : (rl_qR A r u).length = u := by unfold rl_qR; simp
      have h5 : [(nI (T + 1 + g), msg)].length = 1 := rfl
      omega
    refine ⟨q1, q2, u + 1, len, by simp [fr_ui], ?_⟩
    rw [new]
    have kk : ∀ k b, (k = 69 ∨ k = 70) → b ≠ 16 * r + u → (fr_ui (fr_ui (fr_ui A 69 0 (16 * r + u) (nI (T + 1 + g))) 70 0 (16 * r + u) msg) 68 0 r (nI (u + 1))) k 0 b = A k 0 b := fun k b h1 h2 => (fr_ui_n (fun z => by omega)).trans ((fr_ui_n (fun z => by omega)).trans (fr_ui_n (fun z => by omega)))
    unfold rl_qR
    rw [List.range_succ, List.map_append]
    refine congr (congrArg _ (List.map_congr_left (fun i hi => ?_))) ?_
    · have := List.mem_range.mp hi
      rw [kk 69 _ (by decide) (by omega), kk 70 _ (by decide) (by omega)]
    · simp [fr_ui]
/-- the class's report, cell by cell -/
theorem sC_k {M : fr_I} {r : Nat} {now msg : Int32} (k a b : Nat) (h : ¬ ((k = 12 ∨ k = 13) ∧ a = r)) : f_W_send M r msg now k a b = M k a b := by
  unfold f_W_send
  split
  · exact (fr_ui_n (fun z => h (by omega))).trans (fr_ui_n (fun z => h (by omega)))
  · exact (fr_ui_n (fun z => h (by omega))).trans (fr_ui_n (fun z => h (by omega)))
theorem rps_k {M : fr_I} {r : Nat} {now w : Int32} (k a b : Nat) (h : ¬ ((k = 12 ∨ k = 13) ∧ a = r)) : rp_s M r now w k a b = M k a b := by
  unfold rp_s
  by_cases e : M 11 r 0 = 0
  · rw [if_pos e]
  · rw [if_neg e]; exact sC_k k a b h
theorem rpg_k {M : fr_I} {r : Nat} {now : Int32} (k a b : Nat) (h : ¬ (k = 11 ∧ a = r ∧ (b = 7 ∨ b = 8))) : rp_g M r now k a b = M k a b := by
  unfold rp_g
  rw [fr_ui_n (fun z => h (by omega)), fr_ui_n (fun z => h (by omega))]
theorem rph_k {M : fr_I} {r : Nat} {now : Int32} (k a b : Nat) (h : ¬ (k = 11 ∧ a = r ∧ (b = 4 ∨ b = 7 ∨ b = 8))) : rp_h M r now k a b = M k a b := by
  unfold rp_h
  rw [fr_ui_n (fun z => h (by omega)), fr_ui_n (fun z => h (by omega)), fr_ui_n (fun z => h (by omega))]
theorem rp_k {M : fr_I} {r : Nat} {now w ch : Int32} (k a b : Nat) (h1 : ¬ (k = 11 ∧ a = r ∧ (b = 4 ∨ b = 7 ∨ b = 8))) (h2 : ¬ ((k = 12 ∨ k = 13) ∧ a = r)) : f_W_report M r now w ch k a b = M k a b := by
  rw [rp_eq]
  split
  · split
    · rfl
    · split
      · rfl
      · rw [rps_k _ _ _ h2, rpg_k _ _ _ (by omega)]
  · rw [rps_k _ _ _ h2, rph_k _ _ _ h1]
