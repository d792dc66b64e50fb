theorem sd_all {M Q : fr_I} {r T g q : Nat} {w : Int32} (hT : T + 100 < 2 ^ 20) (hq : rl_que (T + 1) M Q r) (hd : ∃ c, c ≤ T + 1 ∧ M 13 r ((T + 1) % 8) = nI c) (h0 : M 11 r 0 = if M 7 r 0 = -1 then 0 else 1) (h7 : M 7 r 0 = Q 42 0 r) (hab : M 7 r 0 = -1 ∨ ∃ a, a < 8 ∧ M 7 r 0 = nI a) (hg : M 11 r 3 = nI g) (hg8 : g ≤ 8) (h53 : Q 53 0 r = M 11 r 3) (h4 : M 11 r 4 = nI q) (hq4 : q ≤ T + 1) (h57 : Q 57 0 r = M 11 r 4) (hw : w = nI (q % 2)) (h56 : Q 56 0 r = w) (ht : Q 20 0 1 = nI (T + 1)) : rl_que (T + 1) (rp_s M r (nI (T + 1)) w) (f_O_send Q r) r := by
  unfold rp_s
  rcases hab with z | ⟨a, ha, z⟩
  · rw [if_pos (by rw [h0, if_pos z]), sO_no (Or.inl (by rw [← h7, z]; decide))]
    exact hq
  · have hna : ¬ nI a < 0 := nI_pos (by omega)
    have hn1 : ¬ M 7 r 0 = -1 := fun y => hna (by rw [← z, y]; decide)
    rw [if_neg (by rw [h0, if_neg hn1]; decide)]
    have hm : 2 * M 11 r 4 + (if w = 0 then (0 : Int32) else 1) = nI (rl_mk q) := by
      rw [h4, hw]
      have h2 : (2 : Int32) * nI q = nI (2 * q) := (Int32.ofNat_mul 2 q).symm
      rw [h2]
      rcases (by omega : q % 2 = 0 ∨ q % 2 = 1) with e | e
      · rw [e, if_pos (show nI 0 = 0 from rfl), show (0 : Int32) = nI 0 from rfl, nI_add]
        unfold rl_mk; rw [e]
      · rw [e, if_neg (show ¬ nI 1 = 0 by decide), show (1 : Int32) = nI 1 from rfl, nI_add]
        unfold rl_mk; rw [e]
    exact sd_que hT hq hd hg hg8 h53 hq4 hm (by rw [← h7, z]; exact hna) (by rw [h57, h56]) ht
theorem fm_k {I : fr_I} {J : fr_J} {r : Nat} (k a b : Nat) (h : k < 7 ∨ a ≠ r) : (fb_F_measureAll (I, J) r).1 k a b = I k a b := by
  unfold fb_F_measureAll
  rw [mc_eq]
  dsimp only
  rw [rp_k _ _ _ (by omega) (by omega), mc_k _ _ _ (by omega) (by omega)]
theorem fo_k {A : fr_I} {B : fr_J} {n r u : Nat} (hu : A 68 0 r = nI u) (hu8 : u ≤ 8) (k a b : Nat) (h : k < 54) : (f_O_measure A B n r).1 k a b = A k a b := by
  rw [mo_eq]
  dsimp only
  rw [mr_k (u := u) ((mo_k 68 0 r (by omega)).trans hu) (by omega) _ _ _ (by omega) (by omega), mo_k _ _ _ (by omega)]
theorem ph_meas {n T r : Nat} {K K' : Nat → Nat × Nat} {I : fr_I} {J : fr_J} {A : fr_I} {B : fr_J} (hT : T + 100 < 2 ^ 20) (hr : r < n) (hK : K r = (T, T + 1)) (hK1 : K' r = (T + 1, T + 1)) (hK2 : ∀ q, q ≠ r → K' q = K q) (hfl : I 2 0 r = f_O_flow A n r) (hfn : fr_nn (I 2 0 r) 176001) (hd : ∃ c, c ≤ T + 1 ∧ I 13 r ((T + 1) % 8) = nI c) (h : rl_al2 n (T + 1) K I J A B) :
    rl_al2 n (T + 1) K' (fb_F_measureAll (I, J) r).1 (fb_F_measureAll (I, J) r).2 (f_O_measure A B n r).1 (f_O_measure A B n r).2 := by
  have hon := h.2.2.2.2.2 r hr
  rw [hK] at hon
  have h8 := h.1.1
  have hab7 := h.1.2.2.2.2.1 r hr
  obtain ⟨o, ho4, ho⟩ := h.1.2.2.2.1 r hr
  obtain ⟨hs, hv, hb, ⟨m1, m2, m3, m4, m5⟩, ⟨x1, x2, x3, x4, x5, ⟨q, hq, x6, x6'⟩, x7, ⟨d, x8, x9⟩⟩, hqu⟩ := id hon
  obtain ⟨_, _, u, u3, u4, _⟩ := id hqu
  obtain ⟨p, hp5, hp⟩ := hv.2.2.2.2.1
  obtain ⟨g, hg9, hg⟩ := hv.2.2.1
  have hw' : fr_wf n (fb_F_measureAll (I, J) r).1 := fw_W_report (fw_M_measure hr h.1)
  have hm' : fr_mw n (f_O_measure A B n r).1 := fw_O_measure ⟨u, by omega, u4⟩ h.2.1
  have hFk := fun k a b => fm_k (I := I) (J := J) (r := r) k a b
  -- both measure
  have sam : ∀ i, i < 4 → mo_A A n r 54 0 (4 * r + i) = mc_4 I r (I 2 0 r) 9 r (((mc_4 I r (I 2 0 r) 8 r 1).toNatClampNeg + i) % 4) := by
    intro i hi
    rw [mo_54 i hi, mc_1 ho ho4, nI_clamp (by omega), mc_9 ho ho4]
    by_cases e : i = 3
    · rw [if_pos e, if_pos (by omega)]; exact hfl.symm
    · rw [if_neg e, if_neg (by omega), m3 (i + 1) (by omega), ho, nI_clamp (by omega)]
      congr 1
      omega
  have nn : ∀ i, i < 4 → fr_nn (mc_4 I r (I 2 0 r) 9 r i) 176001 := by
    intro i hi
    rw [mc_9 ho ho4]
    split
    · exact hfn
    · exact m4 i hi
  obtain ⟨hr1, e, he, hr2⟩ := rl_root (J := J) (B := B) (I := mc_4 I r (I 2 0 r)) (A := mo_A A n r) (r := r) ⟨(o + 1) % 4, by omega, mc_1 ho ho4⟩ sam nn
  have q48 : mo_A A n r 48 0 r = nI p := (mo_k 48 0 r (by omega)).trans (hs.2.2.2.2.1.symm.trans hp)
  have hw : mc_4 I r (I 2 0 r) 8 r 6 = mo_N (mo_A A n r) r := by
    rw [mc_6]
    unfold mo_N
    rw [← hr1, q48, hr2, hp, nI_l (by omega), nI_l (by omega)]
    by_cases z : e ≤ p
    · rw [if_pos (nI_le z (by omega)), if_pos ((lg_cmp_le _ _).mpr ((pk_lLE (by omega) (by omega)).mpr z))]
    · rw [if_neg (nI_ge (by omega) (by omega)), if_neg (fun y => z ((pk_lLE (by omega) (by omega)).mp ((lg_cmp_le _ _).mp y)))]
  have hep : ¬ mc_4 I r (I 2 0 r) 8 r 6 = 0 → p < e := by
    rw [mc_6, hr2, hp]
    intro z
    by_cases y : e ≤ p
    · rw [if_pos (nI_le y (by omega))] at z; exact absurd rfl z
    · omega
  have hw01 : mc_4 I r (I 2 0 r) 8 r 6 = 0 ∨ mc_4 I r (I 2 0 r) 8 r 6 = 1 := by rw [mc_6]; exact fr_if01
  have htot : (if mc_4 I r (I 2 0 r) 8 r 6 = 0 then 0 else J 8 r 7 + f_M_growth (mc_4 I r (I 2 0 r)) r) = mo_T (mo_A A n r) B r := by
    unfold mo_T
    rw [← hw]
    by_cases z : mc_4 I r (I 2 0 r) 8 r 6 = 0
    · rw [if_pos z, if_pos z]
    · have hpe := hep z
      rw [if_neg z, if_neg z, mo_k 47 0 r (by omega), ← hs.2.2.2.1, ← m2, ← hr1, q48, hr2]
      unfold f_M_growth
      rw [mc_5, hr2, mc_k 8 r 2 (by omega) (by omega), mc_k 8 r 3 (by omega) (by omega), hp]
      by_cases y : I 8 r 2 = 0
      · rw [if_pos y, if_pos y]
      · rw [if_neg y, if_neg y]
        by_cases y2 : I 8 r 2 = 1
        · rw [if_pos y2, if_pos y2, pk_sub (by omega), nI_l (by omega), nI_l (by omega), nI_l (by omega), lN_sub (by omega)]
        · rw [if_neg y2, if_neg y2]
  have eF : fb_F_measureAll (I, J) r = (f_W_report (mc_4 I r (I 2 0 r)) r (nI (T + 1)) (mc_4 I r (I 2 0 r) 8 r 6) (if mc_4 I r (I 2 0 r) 8 r 6 = I 8 r 6 then 0 else 1), fr_uj J 8 r 7 (mo_T (mo_A A n r) B r)) := by
    unfold fb_F_measureAll
    dsimp only
    rw [mc_eq]
    dsimp only
    rw [htot, mc_k 0 0 5 (by omega) (by omega), h.2.2.1]
  have eO := mo_eq A B n r
  rw [eF] at hw' hFk ⊢
  rw [eO] at hm' ⊢
  dsimp only at hw' hFk hm' ⊢
  -- cells
  have C : ∀ k a b, ¬ (k = 8 ∧ a = r ∧ (b = 1 ∨ b = 5 ∨ b = 6)) → ¬ (k = 9 ∧ a = r) → mc_4 I r (I 2 0 r) k a b = I k a b := fun k a b h1 h2 => mc_k k a b h1 h2
  have c81 : fr_nn (mc_4 I r (I 2 0 r) 8 r 1) 4 := ⟨(o + 1) % 4, by omega, mc_1 ho ho4⟩
  have c85 : mc_4 I r (I 2 0 r) 8 r 5 = f_M_rootOfMeanSquare (mc_4 I r (I 2 0 r)) r := mc_5
  have Q : ∀ k a b, ¬ (k = 54 ∧ 4 * r ≤ b ∧ b < 4 * r + 4) → mo_A A n r k a b = A k a b := fun k a b h1 => mo_k k a b h1
  generalize htt : mo_T (mo_A A n r) B r = tt at *
  generalize hC : mc_4 I r (I 2 0 r) = C4 at *
  generalize hQ : mo_A A n r = Q4 at *
  have uQ : Q4 68 0 r = nI u := (Q 68 0 r (by omega)).trans u4
  have mk := fun k a b => mr_k (Q := Q4) (r := r) uQ (by omega) k a b
  refine al_up h hw' hm' (fun k a b hk => hFk k a b hk) (fun a ha => fr_uj_n (fun z => ha z.2.1)) (fun k a b hk => (mk k a b (by omega) (by omega)).trans (Q k a b (by omega))) (fun k b h1 h2 h3 h4 => (mk k 0 b (by omega) (by omega)).trans (Q k 0 b (by omega))) (fun b hb => (mk 54 0 b (by omega) (by omega)).trans (Q 54 0 b (by omega))) (fun b hb => (mk 69 0 b (by omega) (by omega)).trans (Q 69 0 b (by omega))) (fun b hb => (mk 70 0 b (by omega) (by omega)).trans (Q 70 0 b (by omega))) (fun b hb => fr_uj_n (fun z => hb z.2.2)) hK2 (fun _ _ => ?_)
  rw [hK1]
  have j2 : fr_uj J 8 r 7 tt 8 r 7 = fr_uj B 55 0 r tt 55 0 r := by simp [fr_uj]
  have hqC : rl_que (T + 1) C4 Q4 r := que_c (fun p => C 12 r p (by omega) (by omega)) (fun p => C 13 r p (by omega) (by omega)) (Q 68 0 r (by omega)) (fun i _ => Q 69 0 _ (by omega)) (fun i _ => Q 70 0 _ (by omega)) hqu
  have hdC : ∃ c, c ≤ T + 1 ∧ C4 13 r ((T + 1) % 8) = nI c := by rw [C 13 r _ (by omega) (by omega)]; exact hd
  have hab : I 7 r 0 = -1 ∨ ∃ a, a < 8 ∧ I 7 r 0 = nI a := by
    rcases hab7 with ⟨_, z⟩ | ⟨a, ha, z⟩
    · exact Or.inl z
    · exact Or.inr ⟨a, by omega, z⟩
  have tQ : Q4 20 0 1 = nI (T + 1) := (Q 20 0 1 (by omega)).trans h.2.2.2.1
  have c11 : ∀ b, C4 11 r b = I 11 r b := fun b => C 11 r b (by omega) (by omega)
  have c7 : ∀ b, C4 7 r b = I 7 r b := fun b => C 7 r b (by omega) (by omega)
  rw [rp_eq]
  unfold mo_R
  rw [← hw]
  by_cases hc : C4 8 r 6 = I 8 r 6
  · rw [if_pos (show (if C4 8 r 6 = I 8 r 6 then (0 : Int32) else 1) = 0 from if_pos hc), if_pos (show C4 8 r 6 = Q4 56 0 r by rw [hc, m1]; exact (Q 56 0 r (by omega)).symm)]
    rw [c11 8, x8, show Q4 58 0 r = nI d from (Q 58 0 r (by omega)).trans (x2.symm.trans x8), tQ]
    by_cases hd1 : d = T + 1
    · subst hd1
      have hgap : I 11 r 7 = 1 ∨ I 11 r 7 = 2 ∨ I 11 r 7 = 4 ∨ I 11 r 7 = 8 := by
        rcases x9 with z | z
        · omega
        · exact z.2.2
      rw [if_neg (nI_ne0 (by omega) (by omega)), if_neg (nI_nlt (Nat.le_refl _) (by omega)), if_pos rfl]
      have s59 : f_O_send Q4 r 59 0 r = I 11 r 7 := (sO_k uQ (by omega) 59 0 r (by omega) (by omega)).trans ((Q 59 0 r (by omega)).trans x3.symm)
      rw [s59]
      have hg' : ∃ g', (g' = 2 ∨ g' = 4 ∨ g' = 8) ∧ (if (8 : Int32) < 2 * I 11 r 7 then (8 : Int32) else 2 * I 11 r 7) = nI g' ∧ (if I 11 r 7 < 4 then 2 * I 11 r 7 else 8) = nI g' := by
        rcases hgap with z | z | z | z <;> rw [z]
        · exact ⟨2, by decide, by decide, by decide⟩
        · exact ⟨4, by decide, by decide, by decide⟩
        · exact ⟨8, by decide, by decide, by decide⟩
        · exact ⟨8, by decide, by decide, by decide⟩
      obtain ⟨g', hg1, hg2, hg3⟩ := hg'
      have eG : (if I 11 r 7 < 4 then mo_G (f_O_send Q4 r) r (2 * I 11 r 7) else mo_G (f_O_send Q4 r) r 8) = mo_G (f_O_send Q4 r) r (nI g') := by
        rw [← hg3]; split <;> rfl
      rw [eG]
      have M : ∀ k a b, ¬ (k = 11 ∧ a = r ∧ (b = 7 ∨ b = 8)) → rp_g C4 r (nI (T + 1)) k a b = C4 k a b := fun k a b hk => rpg_k k a b hk
      have M7 : rp_g C4 r (nI (T + 1)) 11 r 7 = nI g' := by
        unfold rp_g
        rw [fr_ui_n (fun z => absurd z.2.2 (by decide)), fr_ui_s, c11 7, hg2]
      have M8 : rp_g C4 r (nI (T + 1)) 11 r 8 = nI (T + 1 + g') := by
        unfold rp_g
        rw [fr_ui_s, fr_ui_s, c11 7, hg2, nI_add]
      generalize rp_g C4 r (nI (T + 1)) = M1 at *
      have hqM : rl_que (T + 1) M1 Q4 r := que_c (fun p => M 12 r p (by omega)) (fun p => M 13 r p (by omega)) rfl (fun _ _ => rfl) (fun _ _ => rfl) hqC
      have hsd := sd_all (M := M1) (Q := Q4) (r := r) (T := T) (g := g) (q := q) (w := C4 8 r 6) hT hqM (by rw [M 13 r _ (by omega)]; exact hdC) (by rw [M 11 r 0 (by omega), M 7 r 0 (by omega), c11, c7]; exact hs.2.2.2.2.2.2.2.2.2.2.2) (by rw [M 7 r 0 (by omega), c7, Q 42 0 r (by omega)]; exact hs.1) (by rw [M 7 r 0 (by omega), c7]; exact hab) (by rw [M 11 r 3 (by omega), c11]; exact hg) (by omega) (by rw [M 11 r 3 (by omega), c11, Q 53 0 r (by omega)]; exact hs.2.2.2.2.2.2.2.2.2.1.symm) (by rw [M 11 r 4 (by omega), c11]; exact x6) (by omega) (by rw [M 11 r 4 (by omega), c11, Q 57 0 r (by omega)]; exact x1.symm) (by rw [hc]; exact x6') (by rw [hc, Q 56 0 r (by omega)]; exact m1.symm) tQ
      have S : ∀ k a b, ¬ (k = 68 ∧ b = r) → ¬ ((k = 69 ∨ k = 70) ∧ 16 * r ≤ b ∧ b < 16 * r + 16) → f_O_send Q4 r k a b = Q4 k a b := fun k a b h1 h2 => sO_k uQ (by omega) k a b h1 h2
      have P : ∀ k a b, ¬ ((k = 12 ∨ k = 13) ∧ a = r) → rp_s M1 r (nI (T + 1)) (C4 8 r 6) k a b = M1 k a b := fun k a b hk => rps_k k a b hk
      generalize rp_s M1 r (nI (T + 1)) (C4 8 r 6) = I1 at *
      generalize f_O_send Q4 r = S1 at *
      have G : ∀ k a b, ¬ ((k = 58 ∨ k = 59) ∧ b = r) → mo_G S1 r (nI g') k a b = S1 k a b := fun k a b hk => by
        unfold mo_G
        rw [fr_ui_n (fun z => hk (by omega)), fr_ui_n (fun z => hk (by omega))]
      have G59 : mo_G S1 r (nI g') 59 0 r = nI g' := by
        unfold mo_G
        rw [fr_ui_n (fun z => absurd z.1 (by decide)), fr_ui_s]
      have G58 : mo_G S1 r (nI g') 58 0 r = nI (T + 1 + g') := by
        unfold mo_G
        rw [fr_ui_s, fr_ui_s, fr_ui_n (fun z => absurd z.1 (by decide)), S 20 0 1 (by omega) (by omega), tQ, nI_add]
      generalize mo_G S1 r (nI g') = A1 at *
      have I8 : ∀ b, I1 8 r b = C4 8 r b := fun b => (P 8 r b (by omega)).trans (M 8 r b (by omega))
      have I9 : ∀ b, I1 9 r b = C4 9 r b := fun b => (P 9 r b (by omega)).trans (M 9 r b (by omega))
      have A4 : ∀ k b, k ≠ 58 → k ≠ 59 → k ≠ 68 → k ≠ 69 → k ≠ 70 → A1 k 0 b = Q4 k 0 b := fun k b h1 h2 h3 h4 h5 => (G k 0 b (by omega)).trans (S k 0 b (by omega) (by omega))
      refine ms_on2 hon (fun b => (P 7 r b (by omega)).trans ((M 7 r b (by omega)).trans (c7 b))) (fun b h1 h2 h3 => (I8 b).trans (C 8 r b (by omega) (by omega))) (fun b => (P 10 r b (by omega)).trans ((M 10 r b (by omega)).trans (C 10 r b (by omega) (by omega)))) (fun b h1 h2 h3 => (P 11 r b (by omega)).trans ((M 11 r b (by omega)).trans (c11 b))) (fun k hk => (A4 k r (by omega) (by omega) (by omega) (by omega) (by omega)).trans (Q k 0 r (by omega))) ?_ j2 ?_ ?_ ?_ ?_ ?_ ?_ ?_ ?_ ?_
      · rw [I8, hc, A4 56 r (by decide) (by decide) (by decide) (by decide) (by decide), Q 56 0 r (by omega)]; exact m1
      · intro i hi; rw [A4 54 _ (by decide) (by decide) (by decide) (by decide) (by decide), I8, I9]; exact sam i hi
      · intro i hi; rw [I9]; exact nn i hi
      · rw [I8, c85]; unfold f_M_rootOfMeanSquare; simp only [I9]
      · rw [P 11 r 4 (by omega), M 11 r 4 (by omega), c11, A4 57 r (by decide) (by decide) (by decide) (by decide) (by decide), Q 57 0 r (by omega)]; exact x1
      · rw [P 11 r 8 (by omega), M8, G58]
      · rw [P 11 r 7 (by omega), M7, G59]
      · exact ⟨q, by omega, by rw [P 11 r 4 (by omega), M 11 r 4 (by omega), c11]; exact x6, by rw [I8, hc]; exact x6'⟩
      · refine ⟨T + 1 + g', by rw [P 11 r 8 (by omega), M8], Or.inr ⟨by omega, by omega, ?_⟩⟩
        rw [P 11 r 7 (by omega), M7]
        rcases hg1 with z | z | z <;> rw [z]
        · exact Or.inr (Or.inl rfl)
        · exact Or.inr (Or.inr (Or.inl rfl))
        · exact Or.inr (Or.inr (Or.inr rfl))
      · exact que_c (fun _ => rfl) (fun _ => rfl) (G 68 0 r (by omega)) (fun i _ => G 69 0 _ (by omega)) (fun i _ => G 70 0 _ (by omega)) hsd
    · have hne : ¬ nI d = nI (T + 1) := fun z => hd1 ((nI_eq (by omega) (by omega)).mp z)
      rw [if_neg hne]
      have hstay : (if nI d = 0 then C4 else if nI (T + 1) < nI d then C4 else rp_s (rp_g C4 r (nI (T + 1))) r (nI (T + 1)) (C4 8 r 6)) = C4 := by
        rcases x9 with z | z
        · subst z; rw [if_pos (show nI 0 = 0 from rfl)]
        · split
          · rfl
          · rw [if_pos (nI_lt (by omega) (by omega))]
      rw [hstay]
      refine ms_on2 hon c7 (fun b h1 h2 h3 => C 8 r b (by omega) (by omega)) (fun b => C 10 r b (by omega) (by omega)) (fun b h1 h2 h3 => c11 b) (fun k hk => Q k 0 r (by omega)) ?_ j2 sam nn c85 ?_ ?_ ?_ ?_ ?_ hqC
      · rw [hc, Q 56 0 r (by omega)]; exact m1
      · rw [c11, Q 57 0 r (by omega)]; exact x1
      · rw [c11, Q 58 0 r (by omega)]; exact x2
      · rw [c11, Q 59 0 r (by omega)]; exact x3
      · exact ⟨q, by omega, by rw [c11]; exact x6, by rw [hc]; exact x6'⟩
      · refine ⟨d, by rw [c11]; exact x8, ?_⟩
        rw [c11]
        rcases x9 with z | z
        · exact Or.inl z
        · exact Or.inr ⟨by omega, by omega, z.2.2⟩
  · rw [if_neg (show ¬ (if C4 8 r 6 = I 8 r 6 then (0 : Int32) else 1) = 0 by rw [if_neg hc]; decide), if_neg (show ¬ C4 8 r 6 = Q4 56 0 r by rw [Q 56 0 r (by omega), ← m1]; exact hc)]
    have hwq : C4 8 r 6 = nI ((q + 1) % 2) := by
      rw [x6'] at hc
      rcases (by omega : q % 2 = 0 ∨ q % 2 = 1) with z | z
      · rw [z] at hc
        rw [show (q + 1) % 2 = 1 by omega]
        exact hw01.resolve_left hc
      · rw [z] at hc
        rw [show (q + 1) % 2 = 0 by omega]
        exact hw01.resolve_right hc
    have M : ∀ k a b, ¬ (k = 11 ∧ a = r ∧ (b = 4 ∨ b = 7 ∨ b = 8)) → rp_h C4 r (nI (T + 1)) k a b = C4 k a b := fun k a b hk => rph_k k a b hk
    have M4 : rp_h C4 r (nI (T + 1)) 11 r 4 = nI (q + 1) := by
      unfold rp_h
      rw [fr_ui_n (fun z => absurd z.2.2 (by decide)), fr_ui_n (fun z => absurd z.2.2 (by decide)), fr_ui_s, c11, x6, nI_1]
    have M7 : rp_h C4 r (nI (T + 1)) 11 r 7 = 1 := by
      unfold rp_h
      rw [fr_ui_n (fun z => absurd z.2.2 (by decide)), fr_ui_s]
    have M8 : rp_h C4 r (nI (T + 1)) 11 r 8 = nI (T + 1 + 1) := by
      unfold rp_h
      rw [fr_ui_s, fr_ui_s, nI_1]
    generalize rp_h C4 r (nI (T + 1)) = M1 at *
    have H : ∀ k a b, ¬ ((k = 56 ∨ k = 57) ∧ b = r) → mo_H Q4 r k a b = Q4 k a b := fun k a b hk => by
      unfold mo_H
      rw [fr_ui_n (fun z => hk (by omega)), fr_ui_n (fun z => hk (by omega))]
    have H56 : mo_H Q4 r 56 0 r = C4 8 r 6 := by
      unfold mo_H
      rw [fr_ui_n (fun z => absurd z.1 (by decide)), fr_ui_s, ← hw]
    have H57 : mo_H Q4 r 57 0 r = nI (q + 1) := by
      unfold mo_H
      rw [fr_ui_s, fr_ui_n (fun z => absurd z.1 (by decide)), Q 57 0 r (by omega), ← x1, x6, nI_1]
    generalize mo_H Q4 r = H1 at *
    have hqM : rl_que (T + 1) M1 H1 r := que_c (fun p => M 12 r p (by omega)) (fun p => M 13 r p (by omega)) (H 68 0 r (by omega)) (fun i _ => H 69 0 _ (by omega)) (fun i _ => H 70 0 _ (by omega)) hqC
    have hsd := sd_all (M := M1) (Q := H1) (r := r) (T := T) (g := g) (q := q + 1) (w := C4 8 r 6) hT hqM (by rw [M 13 r _ (by omega)]; exact hdC) (by rw [M 11 r 0 (by omega), M 7 r 0 (by omega), c11, c7]; exact hs.2.2.2.2.2.2.2.2.2.2.2) (by rw [M 7 r 0 (by omega), c7, H 42 0 r (by omega), Q 42 0 r (by omega)]; exact hs.1) (by rw [M 7 r 0 (by omega), c7]; exact hab) (by rw [M 11 r 3 (by omega), c11]; exact hg) (by omega) (by rw [M 11 r 3 (by omega), c11, H 53 0 r (by omega), Q 53 0 r (by omega)]; exact hs.2.2.2.2.2.2.2.2.2.1.symm) M4 (by omega) (by rw [M4, H57]) hwq H56 ((H 20 0 1 (by omega)).trans tQ)
    have uH : H1 68 0 r = nI u := (H 68 0 r (by omega)).trans uQ
    have S : ∀ k a b, ¬ (k = 68 ∧ b = r) → ¬ ((k = 69 ∨ k = 70) ∧ 16 * r ≤ b ∧ b < 16 * r + 16) → f_O_send H1 r k a b = H1 k a b := fun k a b h1 h2 => sO_k uH (by omega) k a b h1 h2
    have P : ∀ k a b, ¬ ((k = 12 ∨ k = 13) ∧ a = r) → rp_s M1 r (nI (T + 1)) (C4 8 r 6) k a b = M1 k a b := fun k a b hk => rps_k k a b hk
    generalize rp_s M1 r (nI (T + 1)) (C4 8 r 6) = I1 at *
    generalize f_O_send H1 r = S1 at *
    have G : ∀ k a b, ¬ ((k = 58 ∨ k = 59) ∧ b = r) → fr_ui (fr_ui S1 59 0 r 1) 58 0 r ((fr_ui S1 59 0 r 1) 20 0 1 + 1) k a b = S1 k a b := fun k a b hk => by
      rw [fr_ui_n (fun z => hk (by omega)), fr_ui_n (fun z => hk (by omega))]
    have G59 : fr_ui (fr_ui S1 59 0 r 1) 58 0 r ((fr_ui S1 59 0 r 1) 20 0 1 + 1) 59 0 r = 1 := by
      rw [fr_ui_n (fun z => absurd z.1 (by decide)), fr_ui_s]
    have G58 : fr_ui (fr_ui S1 59 0 r 1) 58 0 r ((fr_ui S1 59 0 r 1) 20 0 1 + 1) 58 0 r = nI (T + 1 + 1) := by
      rw [fr_ui_s, fr_ui_n (fun z => absurd z.1 (by decide)), S 20 0 1 (by omega) (by omega), H 20 0 1 (by omega), tQ, nI_1]
    generalize fr_ui (fr_ui S1 59 0 r 1) 58 0 r ((fr_ui S1 59 0 r 1) 20 0 1 + 1) = A1 at *
    have I8 : ∀ b, I1 8 r b = C4 8 r b := fun b => (P 8 r b (by omega)).trans (M 8 r b (by omega))
    have I9 : ∀ b, I1 9 r b = C4 9 r b := fun b => (P 9 r b (by omega)).trans (M 9 r b (by omega))
    have AH : ∀ k b, k ≠ 58 → k ≠ 59 → k ≠ 68 → k ≠ 69 → k ≠ 70 → A1 k 0 b = H1 k 0 b := fun k b h1 h2 h3 h4 h5 => (G k 0 b (by omega)).trans (S k 0 b (by omega) (by omega))
    refine ms_on2 hon (fun b => (P 7 r b (by omega)).trans ((M 7 r b (by omega)).trans (c7 b))) (fun b h1 h2 h3 => (I8 b).trans (C 8 r b (by omega) (by omega))) (fun b => (P 10 r b (by omega)).trans ((M 10 r b (by omega)).trans (C 10 r b (by omega) (by omega)))) (fun b h1 h2 h3 => (P 11 r b (by omega)).trans ((M 11 r b (by omega)).trans (c11 b))) (fun k hk => (AH k r (by omega) (by omega) (by omega) (by omega) (by omega)).trans ((H k 0 r (by omega)).trans (Q k 0 r (by omega)))) ?_ j2 ?_ ?_ ?_ ?_ ?_ ?_ ?_ ?_ ?_
    · rw [I8, AH 56 r (by decide) (by decide) (by decide) (by decide) (by decide), H56]
    · intro i hi; rw [AH 54 _ (by decide) (by decide) (by decide) (by decide) (by decide), H 54 0 _ (by omega), I8, I9]; exact sam i hi
    · intro i hi; rw [I9]; exact nn i hi
    · rw [I8, c85]; unfold f_M_rootOfMeanSquare; simp only [I9]
    · rw [P 11 r 4 (by omega), M4, AH 57 r (by decide) (by decide) (by decide) (by decide) (by decide), H57]
    · rw [P 11 r 8 (by omega), M8, G58]
    · rw [P 11 r 7 (by omega), M7, G59]
    · exact ⟨q + 1, by omega, by rw [P 11 r 4 (by omega)]; exact M4, by rw [I8]; exact hwq⟩
    · exact ⟨T + 1 + 1, by rw [P 11 r 8 (by omega), M8], Or.inr ⟨by omega, by omega, Or.inl (by rw [P 11 r 7 (by omega)]; exact M7)⟩⟩
    · exact que_c (fun _ => rfl) (fun _ => rfl) (G 68 0 r (by omega)) (fun i _ => G 69 0 _ (by omega)) (fun i _ => G 70 0 _ (by omega)) hsd
