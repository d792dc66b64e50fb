def rr_C (I : fr_I) (n : Nat) (p1 : Int32) : fr_I := fr_ui (g_F_relay I n p1) 0 0 4 ((g_F_relay I n p1 0 0 4) + 1)
def rr_O (A : fr_I) (m : Nat) (p1 : Int32) : fr_I := (fr_ui (fr_ui (fr_ui (fr_ui (fr_ui (fr_ui (fr_ui A 42 0 m p1) 43 0 m 1) 48 0 m 100) 49 0 m 5) 52 0 m 10) 53 0 m 1) 20 0 0 (((fr_ui (fr_ui (fr_ui (fr_ui (fr_ui (fr_ui A 42 0 m p1) 43 0 m 1) 48 0 m 100) 49 0 m 5) 52 0 m 10) 53 0 m 1) 20 0 0) + 1))
theorem rr_Ck {I : fr_I} {n k a b : Nat} {p1 : Int32} (h : ¬ (k = 0 ∧ b = 4)) (h2 : k < 7 ∨ 13 < k ∨ a ≠ n) : rr_C I n p1 k a b = I k a b := by
  unfold rr_C g_F_relay
  rw [fr_ui_n (fun z => by omega), fr_ui_n (fun z => by omega), fr_ui_n (fun z => by omega), fr_ui_n (fun z => by omega)]
  unfold fr_zi
  rw [if_neg (fun z => by omega), if_neg (fun z => by omega), if_neg (fun z => by omega), fr_ui_n (fun z => by omega), fr_ui_n (fun z => by omega), fr_ui_n (fun z => by omega), if_neg (fun z => by omega), fr_ui_n (fun z => by omega), fr_ui_n (fun z => by omega), if_neg (fun z => by omega), if_neg (fun z => by omega), if_neg (fun z => by omega)]
theorem rr_C4 {I : fr_I} {n : Nat} {p1 : Int32} : g_F_relay I n p1 0 0 4 = I 0 0 4 := by
  unfold g_F_relay
  simp [fr_ui, fr_zi]
theorem rr_Jk {J : fr_J} {n k a b : Nat} (h2 : k < 7 ∨ 13 < k ∨ a ≠ n) : j_F_relay J n k a b = J k a b := by
  unfold j_F_relay fr_zj
  rw [if_neg (fun z => by omega), if_neg (fun z => by omega), if_neg (fun z => by omega), if_neg (fun z => by omega), if_neg (fun z => by omega), if_neg (fun z => by omega), if_neg (fun z => by omega)]
theorem rr_J0 {J : fr_J} {n b : Nat} : j_F_relay J n 8 n b = 0 := by
  unfold j_F_relay fr_zj
  simp
theorem rr_Ok {A : fr_I} {m k a b : Nat} {p1 : Int32} (h : ¬ (k = 20 ∧ b = 0)) (h2 : k < 42 ∨ 53 < k ∨ b ≠ m) : rr_O A m p1 k a b = A k a b := by
  unfold rr_O
  rw [fr_ui_n (fun z => by omega), fr_ui_n (fun z => by omega), fr_ui_n (fun z => by omega), fr_ui_n (fun z => by omega), fr_ui_n (fun z => by omega), fr_ui_n (fun z => by omega), fr_ui_n (fun z => by omega)]
theorem rr_O0 {A : fr_I} {m : Nat} {p1 : Int32} : rr_O A m p1 20 0 0 = A 20 0 0 + 1 := by
  unfold rr_O
  simp [fr_ui]
/-- a new relay, of both sides -/
theorem rr_one {n : Nat} {I : fr_I} {J : fr_J} {A : fr_I} {B : fr_J} {p1 : Int32} (hz : rl_fre n A B) : rl_one 0 (rr_C I n p1) (j_F_relay J n) (rr_O A n p1) B n := by
  obtain ⟨z, z54, z55⟩ := hz n (Nat.le_refl _)
  have o : ∀ k, k = 44 ∨ k = 45 ∨ k = 46 ∨ k = 47 ∨ k = 50 ∨ k = 51 → rr_O A n p1 k 0 n = 0 := by
    intro k hk
    have : rr_O A n p1 k 0 n = A k 0 n := by
      unfold rr_O
      rw [fr_ui_n (fun z => by omega), fr_ui_n (fun z => by omega), fr_ui_n (fun z => by omega), fr_ui_n (fun z => by omega), fr_ui_n (fun z => by omega), fr_ui_n (fun z => by omega), fr_ui_n (fun z => by omega)]
    rw [this]
    exact z k (by omega) (by omega) (by omega) (by omega) (by omega)
  have o2 : ∀ k, 54 ≤ k → k ≤ 72 → k ≠ 54 → k ≠ 69 → k ≠ 70 → rr_O A n p1 k 0 n = 0 := fun k h1 h2 h3 h4 h5 => (rr_Ok (by omega) (by omega)).trans (z k (by omega) h2 h3 h4 h5)
  have c9 : ∀ p, rr_C I n p1 9 n p = 0 := by intro p; unfold rr_C g_F_relay; simp [fr_ui, fr_zi]
  have c12 : ∀ p, rr_C I n p1 12 n p = 0 := by intro p; unfold rr_C g_F_relay; simp [fr_ui, fr_zi]
  have c13 : ∀ p, rr_C I n p1 13 n p = 0 := by intro p; unfold rr_C g_F_relay; simp [fr_ui, fr_zi]
  refine ⟨?_, ?_, ?_, ⟨?_, ?_, ?_, ?_, ?_⟩, ?_, ⟨?_, ?_, 0, by omega, ?_, ?_⟩⟩
  · unfold rl_set
    rw [o 44 (by decide), o 45 (by decide), o 46 (by decide), o 47 (by decide), o 50 (by decide), o 51 (by decide)]
    unfold rr_C g_F_relay rr_O
    simp [fr_ui, fr_zi]
  · unfold rl_val rr_C g_F_relay
    simp [fr_ui, fr_zi]
    exact ⟨⟨0, by decide, rfl⟩, ⟨0, by decide, rfl⟩, ⟨1, by decide, rfl⟩, ⟨100, by decide, rfl⟩, ⟨5, by decide, rfl⟩⟩
  · unfold rl_brk
    rw [o2 65 (by decide) (by decide) (by decide) (by decide) (by decide), o2 62 (by decide) (by decide) (by decide) (by decide) (by decide), o2 66 (by decide) (by decide) (by decide) (by decide) (by decide), o2 61 (by decide) (by decide) (by decide) (by decide) (by decide), o2 63 (by decide) (by decide) (by decide) (by decide) (by decide), o2 64 (by decide) (by decide) (by decide) (by decide) (by decide), o2 67 (by decide) (by decide) (by decide) (by decide) (by decide), o2 60 (by decide) (by decide) (by decide) (by decide) (by decide)]
    unfold rr_C g_F_relay rr_O
    simp [fr_ui, fr_zi]
  · rw [o2 56 (by decide) (by decide) (by decide) (by decide) (by decide)]
    unfold rr_C g_F_relay
    simp [fr_ui, fr_zi]
  · rw [rr_J0]; exact z55.symm
  · intro i hi
    rw [c9, rr_Ok (by omega) (by omega)]; exact z54 i hi
  · intro i hi; rw [c9]; exact ⟨0, by decide, rfl⟩
  · rw [cr_root (fun i _ => c9 i)]
    unfold rr_C g_F_relay
    simp [fr_ui, fr_zi]
  · unfold rl_wir
    rw [o2 57 (by decide) (by decide) (by decide) (by decide) (by decide), o2 58 (by decide) (by decide) (by decide) (by decide) (by decide), o2 59 (by decide) (by decide) (by decide) (by decide) (by decide), o2 71 (by decide) (by decide) (by decide) (by decide) (by decide), o2 72 (by decide) (by decide) (by decide) (by decide) (by decide)]
    have w4 : rr_C I n p1 11 n 4 = 0 := by unfold rr_C g_F_relay; simp [fr_ui, fr_zi]
    have w5 : rr_C I n p1 11 n 5 = 0 := by unfold rr_C g_F_relay; simp [fr_ui, fr_zi]
    have w6 : rr_C I n p1 11 n 6 = 0 := by unfold rr_C g_F_relay; simp [fr_ui, fr_zi]
    have w7 : rr_C I n p1 11 n 7 = 0 := by unfold rr_C g_F_relay; simp [fr_ui, fr_zi]
    have w8 : rr_C I n p1 11 n 8 = 0 := by unfold rr_C g_F_relay; simp [fr_ui, fr_zi]
    have m6 : rr_C I n p1 8 n 6 = 0 := by unfold rr_C g_F_relay; simp [fr_ui, fr_zi]
    exact ⟨w4, w8, w7, w5, w6, ⟨0, Nat.le_refl _, w4, m6⟩, ⟨0, Nat.le_refl _, w5⟩, 0, w8, Or.inl rfl⟩
  · intro p _; rw [c12]; exact ⟨0, by omega, rfl⟩
  · intro p _; rw [c13]; exact ⟨0, by omega, rfl⟩
  · exact o2 68 (by decide) (by decide) (by decide) (by decide) (by decide)
  · show [] = _
    symm
    rw [List.filter_eq_nil_iff]
    intro e he
    unfold rl_qC at he
    obtain ⟨p, hp, rfl⟩ := List.mem_map.mp he
    show ¬ decide (nI 0 < rr_C I n p1 13 n ((0 + 1 + p) % 8)) = true
    rw [c13]
    decide
theorem rr_all {n : Nat} {I : fr_I} {J : fr_J} {A : fr_I} {B : fr_J} {p1 : Int32} (h8 : n < 8) (hp : (n = 0 ∧ p1 = -1) ∨ ∃ a, a < n ∧ p1 = nI a) (hz : rl_fre n A B) (h : rl_all n 0 I J A B) : rl_all (n + 1) 0 (rr_C I n p1) (j_F_relay J n) (rr_O A n p1) B := by
  obtain ⟨hw, hm, t1, t2, ⟨j1, j2, j3, j4⟩, hq⟩ := h
  have f : ∀ k a b, ¬ (k = 0 ∧ b = 4) → k < 7 → rr_C I n p1 k a b = I k a b := fun k a b h1 h2 => rr_Ck h1 (by omega)
  have f2 : ∀ k a b, ¬ (k = 0 ∧ b = 4) → a ≠ n → rr_C I n p1 k a b = I k a b := fun k a b h1 h2 => rr_Ck h1 (by omega)
  have c4 : rr_C I n p1 0 0 4 = nI (n + 1) := by
    show fr_ui (g_F_relay I n p1) 0 0 4 ((g_F_relay I n p1 0 0 4) + 1) 0 0 4 = _
    rw [rr_C4, hw.2.1, nI_1]; simp [fr_ui]
  have c7 : rr_C I n p1 7 n 0 = p1 := by unfold rr_C g_F_relay; simp [fr_ui, fr_zi]
  have c8 : rr_C I n p1 8 n 1 = 0 := by unfold rr_C g_F_relay; simp [fr_ui, fr_zi]
  have o42 : rr_O A n p1 42 0 n = p1 := by unfold rr_O; simp [fr_ui]
  have pp : (n = 0 ∧ p1 = -1) ∨ ∃ a, a < n ∧ p1 = nI a := hp
  refine ⟨⟨by omega, c4, ?_, ?_, ?_, ?_⟩, ⟨by omega, ?_, ?_, ?_, ?_, ?_⟩, (f 0 0 5 (by decide) (by decide)).trans t1, (rr_Ok (by decide) (by omega)).trans t2, ⟨?_, ?_, fun i => ?_, fun i => ?_⟩, fun q hqn => ?_⟩
  · rw [f 4 0 2 (by decide) (by decide)]; exact hw.2.2.1
  · intro r hr
    by_cases e : r = n
    · subst e; rw [c8]; exact ⟨0, by decide, rfl⟩
    · rw [f2 8 r 1 (by decide) e]; exact hw.2.2.2.1 r (by omega)
  · intro r hr
    by_cases e : r = n
    · subst e; rw [c7]; exact pp
    · rw [f2 7 r 0 (by decide) e]; exact hw.2.2.2.2.1 r (by omega)
  · rw [f 4 0 3 (by decide) (by decide)]; exact hw.2.2.2.2.2
  · rw [rr_O0, hm.2.1, nI_1]
  · rw [rr_Ok (by decide) (by omega)]; exact hm.2.2.1
  · rw [rr_Ok (by decide) (by omega)]; exact hm.2.2.2.1
  · intro r hr
    by_cases e : r = n
    · subst e; rw [o42]; exact pp
    · rw [rr_Ok (by omega) (by omega)]; exact hm.2.2.2.2.1 r (by omega)
  · intro r hr
    rw [rr_Ok (by omega) (by omega)]
    by_cases e : r = n
    · subst e; rw [(hz r (Nat.le_refl _)).1 68 (by decide) (by decide) (by decide) (by decide) (by decide)]; exact ⟨0, by decide, rfl⟩
    · exact hm.2.2.2.2.2 r (by omega)
  · rw [f 4 0 2 (by decide) (by decide), rr_Ok (by decide) (by omega)]; exact j1
  · rw [f 4 0 3 (by decide) (by decide), rr_Ok (by decide) (by omega)]; exact j2
  · rw [f 5 0 i (by omega) (by decide), rr_Ok (by omega) (by omega)]; exact j3 i
  · rw [f 6 0 i (by omega) (by decide), rr_Ok (by omega) (by omega)]; exact j4 i
  · by_cases e : q = n
    · subst e; exact rr_one hz
    · exact on2_off (K := (0, 0)) (fun k j _ _ => f2 k q j (by omega) e) (rr_Jk (by omega)) (fun k _ _ _ _ _ => rr_Ok (by omega) (by omega)) (fun i _ => rr_Ok (by omega) (by omega)) (fun i _ => rr_Ok (by omega) (by omega)) (fun i _ => rr_Ok (by omega) (by omega)) rfl (hq q (by omega))
theorem rr_fre {n : Nat} {A : fr_I} {B : fr_J} {p1 : Int32} (hz : rl_fre n A B) : rl_fre (n + 1) (rr_O A n p1) B := fun q hq =>
  ⟨fun k h1 h2 h3 h4 h5 => (rr_Ok (by omega) (by omega)).trans ((hz q (by omega)).1 k h1 h2 h3 h4 h5), fun i hi => (rr_Ok (by omega) (by omega)).trans ((hz q (by omega)).2.1 i hi), (hz q (by omega)).2.2⟩
theorem rr_no {n T : Nat} {I : fr_I} {J : fr_J} {A : fr_I} {B : fr_J} {p1 : Int32} (h : rl_all n T I J A B) (hx : (8 : Int32) ≤ I 0 0 4 ∨ ¬ I 0 0 5 = 0 ∨ f_F_isPlaceFor I p1 = 0) : f_O_relay A n p1 = (-1, A) := by
  have h8 := h.1.1
  have ht : I 0 0 5 = A 20 0 1 := h.2.2.1.trans h.2.2.2.1.symm
  have hc : I 0 0 4 = A 20 0 0 := h.1.2.1.trans h.2.1.2.1.symm
  unfold f_O_relay
  by_cases e8 : A 20 0 0 = 8
  · rw [if_pos e8]
  · rw [if_neg e8]
    by_cases e0 : A 20 0 1 = 0
    · rw [if_pos e0]
      have hpl : f_F_isPlaceFor I p1 = 0 := by
        rcases hx with h1 | h1 | h1
        · exfalso
          rw [h.1.2.1] at h1
          have : n = 8 := by
            have := (nI_leI (a := 8) (b := n) (by decide) (by omega)).mp h1
            omega
          rw [h.2.1.2.1, this] at e8
          exact e8 rfl
        · rw [ht] at h1; exact absurd e0 h1
        · exact h1
      unfold f_F_isPlaceFor at hpl
      rw [hc] at hpl
      by_cases c0 : A 20 0 0 = 0
      · rw [if_pos c0] at hpl ⊢
        by_cases p : p1 = -1
        · rw [if_pos p] at hpl; exact absurd hpl (by decide)
        · rw [if_neg p]
      · rw [if_neg c0] at hpl ⊢
        have := rl_none h hpl
        rw [this, if_neg (by decide)]
    · rw [if_neg e0]
theorem rr_yes {n : Nat} {I : fr_I} {J : fr_J} {A : fr_I} {B : fr_J} {p1 : Int32} (h : rl_all n 0 I J A B) (h8 : n < 8) (hpl : ¬ f_F_isPlaceFor I p1 = 0) : f_O_relay A n p1 = (nI n, rr_O A n p1) ∧ ((n = 0 ∧ p1 = -1) ∨ ∃ a, a < n ∧ p1 = nI a) := by
  have hc : I 0 0 4 = A 20 0 0 := h.1.2.1.trans h.2.1.2.1.symm
  have e8 : ¬ A 20 0 0 = 8 := by
    rw [h.2.1.2.1]
    intro z
    have := (nI_eq (a := n) (b := 8) (by omega) (by decide)).mp z
    omega
  have ex : (rr_O A n p1 20 0 0 - 1, rr_O A n p1) = (nI n, rr_O A n p1) := by
    rw [rr_O0, h.2.1.2.1, nI_1, nI_pred]
  unfold f_O_relay
  rw [if_neg e8, if_pos (show A 20 0 1 = 0 from h.2.2.2.1)]
  unfold f_F_isPlaceFor at hpl
  rw [hc] at hpl
  by_cases c0 : A 20 0 0 = 0
  · rw [if_pos c0] at hpl ⊢
    by_cases p : p1 = -1
    · rw [if_pos p]
      refine ⟨ex, Or.inl ⟨?_, p⟩⟩
      rw [h.2.1.2.1] at c0
      exact (nI_eq (a := n) (b := 0) (by omega) (by decide)).mp c0
    · rw [if_neg p] at hpl; exact absurd rfl hpl
  · rw [if_neg c0] at hpl ⊢
    obtain ⟨a, ha, rfl⟩ := fr_isR_1 h.1 hpl
    have hn : f_O_none A (nI a) = 0 := by
      unfold f_O_none
      rw [if_neg (nI_pos (by omega)), h.2.1.2.1, if_pos (nI_lt ha (by omega))]
    rw [hn, if_pos rfl]
    exact ⟨ex, Or.inr ⟨a, ha, rfl⟩⟩
theorem op_relay (X : fr_X) (hX : ∀ k r, fr_ad X k r = fr_adf X.2.2.2 k r) {c : Nat} (hc : c < 512) (n : Nat) (I : fr_I) (J : fr_J) (a1 : Int32) (h : rl_inv c n I J) : lx_P X (rl_inv (c + 1)) y_F_relay c_F_relay 2 (some .int) y_O_relay c_O_relay 2 (some .int) [.int a1] n I J := by
  obtain ⟨T, hT, hR, hZ⟩ := h
  have h8 := hR.1.1
  by_cases hx : (8 : Int32) ≤ I 0 0 4 ∨ ¬ I 0 0 5 = 0 ∨ f_F_isPlaceFor I a1 = 0
  · have hO := ct_O_relay X n n I J a1 hR.2.1.2.1 h8
    rw [rr_no hR hx] at hO
    refine lx_mk (ct_F_relay_no X n I J a1 hx) hO (by decide) (by decide) ?_ ⟨T, by omega, hR, hZ⟩
    unfold f_F_relay_no
    split
    · rfl
    · split <;> rfl
  · have hx1 : n < 8 := by
      rcases Nat.lt_or_ge n 8 with z | z
      · exact z
      · exact absurd (Or.inl (by rw [hR.1.2.1, show n = 8 by omega]; decide)) hx
    have hx2 : I 0 0 5 = 0 := Classical.byContradiction (fun z => hx (Or.inr (Or.inl z)))
    have hx3 : ¬ f_F_isPlaceFor I a1 = 0 := fun z => hx (Or.inr (Or.inr z))
    obtain rfl : T = 0 := by
      have z := hR.2.2.1
      rw [hx2] at z
      exact ((nI_eq (a := T) (b := 0) (by omega) (by decide)).mp z.symm)
    have kO : rl_kO I (rr_C I n a1) := fun k a b hk => rr_Ck (by omega) (by omega)
    have kOJ : rl_kOJ J (j_F_relay J n) := fun k a b hk => rr_Jk (by omega)
    have kC : rl_kC (rr_C I n a1) (rr_O (rr_C I n a1) n a1) := fun k a b hk => rr_Ok (by omega) (by omega)
    have hA : rl_all n 0 I J (rr_C I n a1) (j_F_relay J n) := hR.congr (fun _ _ _ _ => rfl) (fun _ _ _ _ => rfl) kO kOJ
    obtain ⟨y1, y2⟩ := rr_yes hA hx1 hx3
    have hz' : rl_fre n (rr_C I n a1) (j_F_relay J n) := (hZ rfl).congr kO kOJ
    have hF := ct_F_relay X hX n hx1 I J a1 hR.1 hx2 hx3
    have hO := ct_O_relay X (n + 1) n (rr_C I n a1) (j_F_relay J n) a1 hA.2.1.2.1 h8
    rw [y1] at hO
    have hxv : (g_F_relay I n a1 0 0 4 + 1) - 1 = nI n := by rw [rr_C4, hR.1.2.1, nI_1, nI_pred]
    rw [hxv] at hF
    refine ⟨_, _, nI n, n + 1, _, _, _, _, ?_, ?_, ?_, ?_, hF, hO, 0, by omega, ?_, fun _ => rr_fre hz'⟩
    · decide
    · decide
    · exact ⟨by omega, by show 7 = 7 * (n + 1 - n); omega, by show 57 = 57 * (n + 1 - n); omega⟩
    · decide
    · exact (rr_all hx1 y2 hz' hA).congr kC (fun _ _ _ _ => rfl) (fun _ _ _ _ => rfl) (fun _ _ _ _ => rfl)
