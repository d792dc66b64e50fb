/-- one relay moves on -/
theorem al_up {n C r : Nat} {K K' : Nat → Nat × Nat} {I I' : fr_I} {J J' : fr_J} {A A' : fr_I} {B B' : fr_J} (h : rl_al2 n C K I J A B) (hw' : fr_wf n I') (hm' : fr_mw n A') (hI : ∀ k a b, (k < 7 ∨ a ≠ r) → I' k a b = I k a b) (hJ : ∀ a, a ≠ r → J' 8 a 7 = J 8 a 7) (hA : ∀ k a b, (k < 42 ∨ 72 < k) → A' k a b = A k a b) (hA2 : ∀ k b, k ≠ 54 → k ≠ 69 → k ≠ 70 → b ≠ r → A' k 0 b = A k 0 b) (h54 : ∀ b, (b < 4 * r ∨ 4 * r + 4 ≤ b) → A' 54 0 b = A 54 0 b) (h69 : ∀ b, (b < 16 * r ∨ 16 * r + 16 ≤ b) → A' 69 0 b = A 69 0 b) (h70 : ∀ b, (b < 16 * r ∨ 16 * r + 16 ≤ b) → A' 70 0 b = A 70 0 b) (hB : ∀ b, b ≠ r → B' 55 0 b = B 55 0 b) (hK : ∀ q, q ≠ r → K' q = K q) (h1 : r < n → rl_on2 (K r) I J A B r → rl_on2 (K' r) I' J' A' B' r) : rl_al2 n C K' I' J' A' B' := by
  obtain ⟨hw, hm, t1, t2, ⟨j1, j2, j3, j4⟩, hq⟩ := h
  refine ⟨hw', hm', (hI 0 0 5 (Or.inl (by decide))).trans t1, (hA 20 0 1 (by decide)).trans t2, ⟨?_, ?_, fun i => ?_, fun i => ?_⟩, fun q hqn => ?_⟩
  · rw [hI 4 0 2 (Or.inl (by decide)), hA 20 0 33 (by decide)]; exact j1
  · rw [hI 4 0 3 (Or.inl (by decide)), hA 20 0 34 (by decide)]; exact j2
  · rw [hI 5 0 i (Or.inl (by decide)), hA 75 0 i (by decide)]; exact j3 i
  · rw [hI 6 0 i (Or.inl (by decide)), hA 76 0 i (by decide)]; exact j4 i
  · by_cases e : q = r
    · subst e; exact h1 hqn (hq q hqn)
    · rw [hK q e]
      exact on2_off (fun k j _ _ => hI k q j (Or.inr e)) (hJ q e) (fun k _ _ h3 h4 h5 => hA2 k q h3 h4 h5 e) (fun i hi => h54 _ (by omega)) (fun i hi => h69 _ (by omega)) (fun i hi => h70 _ (by omega)) (hB q e) (hq q hqn)
-- messages that come: what is learnt
def rl_st (now : Int32) (s e : Int32 × Int32) : Int32 × Int32 := if e.1 = now then (if e.2 >>> (1 &&& 31) < s.1 >>> (1 &&& 31) then s else (e.2, now)) else s
def rl_so (now : Int32) (s e : Int32 × Int32) : Int32 × Int32 := if e.1 = now then (if e.2 / 2 ≤ s.1 / 2 then (if e.2 / 2 = s.1 / 2 then (s.1, now) else s) else (e.2, now)) else s
theorem rl_mk_sh {x : Nat} (hx : x < 2 ^ 20) : nI (rl_mk x) >>> ((1 : Int32) &&& 31) = nI x ∧ nI (rl_mk x) / 2 = nI x := by
  have hb : rl_mk x < 2 ^ 31 := by unfold rl_mk; omega
  have hm : rl_mk x / 2 = x := by unfold rl_mk; omega
  refine ⟨?_, ?_⟩
  · rw [pk_shrN hb _ 1 (by decide)]
    show nI (rl_mk x / 2) = _
    rw [hm]
  · have := pk_div hb (d := 2) (by decide) (by decide)
    rw [hm] at this
    exact this
theorem rl_st_so {T : Nat} (hT : T < 2 ^ 20) {now : Int32} {s e : Int32 × Int32} (hs : ∃ k, k ≤ T ∧ s.1 = nI (rl_mk k)) (he : ∃ m, m ≤ T ∧ e.2 = nI (rl_mk m)) : rl_st now s e = rl_so now s e ∧ ∃ k, k ≤ T ∧ (rl_st now s e).1 = nI (rl_mk k) := by
  obtain ⟨k, hk, ek⟩ := hs
  obtain ⟨m, hm, em⟩ := he
  have a := rl_mk_sh (x := k) (by omega)
  have b := rl_mk_sh (x := m) (by omega)
  unfold rl_st rl_so
  rw [ek, em, a.1, a.2, b.1, b.2]
  by_cases c : e.1 = now
  · rw [if_pos c, if_pos c]
    rcases Nat.lt_trichotomy m k with h | h | h
    · rw [if_pos (nI_lt h (by omega)), if_pos (nI_le (by omega) (by omega)), if_neg (fun z => by have := (nI_eq (by omega) (by omega)).mp z; omega)]
      exact ⟨rfl, k, hk, ek⟩
    · subst h
      rw [if_neg (nI_nlt (Nat.le_refl _) (by omega)), if_pos (nI_le (Nat.le_refl _) (by omega)), if_pos rfl]
      exact ⟨rfl, m, hm, rfl⟩
    · rw [if_neg (nI_nlt (by omega) (by omega)), if_neg (nI_ge h (by omega))]
      exact ⟨rfl, m, hm, rfl⟩
  · rw [if_neg c, if_neg c]
    exact ⟨rfl, k, hk, ek⟩
theorem fold_gen {α β : Type} {f g : α → β → α} {P : α → Prop} {Q : β → Prop} (h : ∀ s e, P s → Q e → f s e = g s e ∧ P (f s e)) : ∀ (L : List β) (s : α), (∀ e ∈ L, Q e) → P s → L.foldl f s = L.foldl g s ∧ P (L.foldl f s) := by
  intro L
  induction L with
  | nil => intro s _ hs; exact ⟨rfl, hs⟩
  | cons e L ih =>
    intro s hL hs
    have h1 := h s e hs (hL e (List.mem_cons_self ..))
    rw [List.foldl_cons, List.foldl_cons, ← h1.1]
    exact ih _ (fun e he => hL e (List.mem_cons_of_mem _ he)) h1.2
theorem rl_fold_so {T : Nat} (hT : T < 2 ^ 20) {now : Int32} (L : List (Int32 × Int32)) (s : Int32 × Int32) (hL : ∀ e ∈ L, ∃ m, m ≤ T ∧ e.2 = nI (rl_mk m)) (hs : ∃ k, k ≤ T ∧ s.1 = nI (rl_mk k)) : L.foldl (rl_st now) s = L.foldl (rl_so now) s ∧ ∃ k, k ≤ T ∧ (L.foldl (rl_st now) s).1 = nI (rl_mk k) :=
  fold_gen (P := fun s => ∃ k, k ≤ T ∧ s.1 = nI (rl_mk k)) (Q := fun e => ∃ m, m ≤ T ∧ e.2 = nI (rl_mk m)) (fun s e hs he => rl_st_so hT hs he) L s hL hs
theorem rl_fold_fi {now : Int32} {p : Int32 × Int32 → Bool} : ∀ (L : List (Int32 × Int32)) (s : Int32 × Int32), (∀ e ∈ L, e.1 = now → p e = true) → (L.filter p).foldl (rl_st now) s = L.foldl (rl_st now) s := by
  intro L
  induction L with
  | nil => intro s _; rfl
  | cons e L ih =>
    intro s h
    have hi := fun s => ih s (fun e he => h e (List.mem_cons_of_mem _ he))
    rw [List.filter_cons]
    split
    · rw [List.foldl_cons, List.foldl_cons]; exact hi _
    · rename_i hp
      rw [List.foldl_cons, hi]
      have : rl_st now s e = s := by
        unfold rl_st
        rw [if_neg (fun z => hp (h e (List.mem_cons_self ..) z))]
      rw [this]
/-- the class takes what comes -/
theorem dl_C {I : fr_I} {r T : Nat} (hT : T < 2 ^ 20) : ∀ i, i ≤ 8 → (∀ k a b, ¬ (k = 11 ∧ a = r ∧ (b = 5 ∨ b = 6)) → fr_it (fb_W_deliver r (nI (T + 1))) I i k a b = I k a b) ∧ (fr_it (fb_W_deliver r (nI (T + 1))) I i 11 r 5, fr_it (fb_W_deliver r (nI (T + 1))) I i 11 r 6) = ((List.range i).map (fun i => (I 13 r ((T + 1 + i) % 8), I 12 r ((T + 1 + i) % 8)))).foldl (rl_st (nI (T + 1))) (I 11 r 5, I 11 r 6) := by
  intro i
  induction i with
  | zero => intro _; exact ⟨fun _ _ _ _ => rfl, rfl⟩
  | succ i ih =>
    intro hi
    obtain ⟨f, g⟩ := ih (by omega)
    rw [fr_it_s, List.range_succ, List.map_append, List.foldl_append, ← g]
    generalize fr_it (fb_W_deliver r (nI (T + 1))) I i = I0 at *
    have hp : (f_W_placeOf I0 (nI (T + 1) + nI i)).toNatClampNeg = (T + 1 + i) % 8 := by
      unfold f_W_placeOf
      rw [nI_add, pk_andN (by omega) 3 rfl, nI_clamp (by omega)]
    unfold fb_W_deliver
    rw [hp, f 13 r _ (by omega), f 12 r _ (by omega)]
    show _ ∧ _ = rl_st (nI (T + 1)) (I0 11 r 5, I0 11 r 6) (I 13 r ((T + 1 + i) % 8), I 12 r ((T + 1 + i) % 8))
    unfold rl_st f_W_learn
    by_cases c : I 13 r ((T + 1 + i) % 8) = nI (T + 1)
    · simp only [c, if_true]
      by_cases d : I 12 r ((T + 1 + i) % 8) >>> ((1 : Int32) &&& 31) < I0 11 r 5 >>> ((1 : Int32) &&& 31)
      · simp only [d, if_true]; exact ⟨f, trivial⟩
      · simp only [d, if_false]
        refine ⟨fun k a b hn => ?_, ?_⟩
        · rw [fr_ui_n (fun z => hn (by omega)), fr_ui_n (fun z => hn (by omega))]; exact f k a b hn
        · simp [fr_ui]
    · simp only [c, if_false]; exact ⟨f, trivial⟩
/-- the reference takes what comes, and keeps the rest -/
def rl_sg (A : fr_I) (r : Nat) : Nat → Nat → List (Int32 × Int32)
  | _, 0 => []
  | j, K + 1 => (A 69 0 (16 * r + j), A 70 0 (16 * r + j)) :: rl_sg A r (j + 1) K
theorem rl_sg_eq {A : fr_I} {r : Nat} : ∀ K j, rl_sg A r j K = (List.range K).map (fun i => (A 69 0 (16 * r + (j + i)), A 70 0 (16 * r + (j + i)))) := by
  intro K
  induction K with
  | zero => intro j; rfl
  | succ K ih =>
    intro j
    rw [List.range_succ_eq_map, List.map_cons, List.map_map]
    show _ :: rl_sg A r (j + 1) K = _
    rw [ih]
    refine congr (congrArg List.cons rfl) (List.map_congr_left (fun i _ => ?_))
    show (A 69 0 (16 * r + (j + 1 + i)), A 70 0 (16 * r + (j + 1 + i))) = (A 69 0 (16 * r + (j + (i + 1))), A 70 0 (16 * r + (j + (i + 1))))
    rw [show j + 1 + i = j + (i + 1) by omega]
theorem rl_sg_c {A A' : fr_I} {r : Nat} : ∀ K j, (∀ b, 16 * r + j ≤ b → A' 69 0 b = A 69 0 b ∧ A' 70 0 b = A 70 0 b) → rl_sg A' r j K = rl_sg A r j K := by
  intro K
  induction K with
  | zero => intro j _; rfl
  | succ K ih =>
    intro j h
    unfold rl_sg
    rw [(h (16 * r + j) (Nat.le_refl _)).1, (h (16 * r + j) (Nat.le_refl _)).2, ih (j + 1) (fun b hb => h b (by omega))]
theorem rl_qR_c {A A' : fr_I} {r u : Nat} (h : ∀ i, i < u → A' 69 0 (16 * r + i) = A 69 0 (16 * r + i) ∧ A' 70 0 (16 * r + i) = A 70 0 (16 * r + i)) : rl_qR A' r u = rl_qR A r u := by
  unfold rl_qR
  refine List.map_congr_left (fun i hi => ?_)
  have := h i (List.mem_range.mp hi)
  rw [this.1, this.2]
theorem dl_O {r : Nat} {now : Int32} : ∀ (K j l : Nat) (A : fr_I), l ≤ j → j + K ≤ 16 → A 20 0 1 = now →
    (∀ k a b, ¬ ((k = 71 ∨ k = 72) ∧ b = r) → ¬ ((k = 69 ∨ k = 70) ∧ 16 * r + l ≤ b ∧ b < 16 * r + 16) → (fr_rc r K j l A).2 k a b = A k a b) ∧
    ((fr_rc r K j l A).2 71 0 r, (fr_rc r K j l A).2 72 0 r) = (rl_sg A r j K).foldl (rl_so now) (A 71 0 r, A 72 0 r) ∧
    rl_qR (fr_rc r K j l A).2 r (fr_rc r K j l A).1 = rl_qR A r l ++ (rl_sg A r j K).filter (fun e => decide (¬ e.1 = now)) ∧ (fr_rc r K j l A).1 ≤ l + K := by
  intro K
  induction K with
  | zero =>
    intro j l A _ _ _
    refine ⟨fun _ _ _ _ _ => rfl, rfl, ?_, Nat.le_refl _⟩
    show rl_qR A r l = rl_qR A r l ++ []
    rw [List.append_nil]
  | succ K ih =>
    intro j l A hl hj hn
    rw [fr_rc_s, fb_rc_eq, hn]
    show _ ∧ _ = (rl_sg A r (j + 1) K).foldl (rl_so now) (rl_so now (A 71 0 r, A 72 0 r) (A 69 0 (16 * r + j), A 70 0 (16 * r + j))) ∧ _ = _ ++ ((A 69 0 (16 * r + j), A 70 0 (16 * r + j)) :: rl_sg A r (j + 1) K).filter _ ∧ _
    by_cases c : A 69 0 (16 * r + j) = now
    · rw [if_pos c, List.filter_cons_of_neg (by simp [c])]
      have hso : ∀ s, rl_so now s (A 69 0 (16 * r + j), A 70 0 (16 * r + j)) = (if A 70 0 (16 * r + j) / 2 ≤ s.1 / 2 then (if A 70 0 (16 * r + j) / 2 = s.1 / 2 then (s.1, now) else s) else (A 70 0 (16 * r + j), now)) := fun s => if_pos c
      rw [hso]
      by_cases d : A 70 0 (16 * r + j) / 2 ≤ A 71 0 r / 2
      · by_cases e : A 70 0 (16 * r + j) / 2 = A 71 0 r / 2
        · simp only [if_pos d, if_pos e]
          obtain ⟨i1, i2, i3, i4⟩ := ih (j + 1) l (fr_ui A 72 0 r now) (by omega) (by omega) ((fr_ui_n (fun z => absurd z.1 (by decide))).trans hn)
          rw [rl_sg_c K (j + 1) (A := A) (fun b hb => ⟨fr_ui_n (fun z => absurd z.1 (by decide)), fr_ui_n (fun z => absurd z.1 (by decide))⟩)] at i2 i3
          rw [rl_qR_c (A := A) (fun b hb => ⟨fr_ui_n (fun z => absurd z.1 (by decide)), fr_ui_n (fun z => absurd z.1 (by decide))⟩)] at i3
          refine ⟨fun k a b h1 h2 => (i1 k a b h1 h2).trans (fr_ui_n (fun z => h1 (by omega))), ?_, i3, by omega⟩
          rw [i2]
          simp [fr_ui]
        · simp only [if_pos d, if_neg e]
          obtain ⟨i1, i2, i3, i4⟩ := ih (j + 1) l A (by omega) (by omega) hn
          exact ⟨i1, i2, i3, by omega⟩
      · simp only [if_neg d]
        have hv : (fr_ui A 71 0 r (A 70 0 (16 * r + j))) 20 0 1 = now := (fr_ui_n (fun z => absurd z.1 (by decide))).trans hn
        rw [hv]
        obtain ⟨i1, i2, i3, i4⟩ := ih (j + 1) l (fr_ui (fr_ui A 71 0 r (A 70 0 (16 * r + j))) 72 0 r now) (by omega) (by omega) ((fr_ui_n (fun z => absurd z.1 (by decide))).trans hv)
        rw [rl_sg_c K (j + 1) (A := A) (fun b hb => ⟨(fr_ui_n (fun z => absurd z.1 (by decide))).trans (fr_ui_n (fun z => absurd z.1 (by decide))), (fr_ui_n (fun z => absurd z.1 (by decide))).trans (fr_ui_n (fun z => absurd z.1 (by decide)))⟩)] at i2 i3
        rw [rl_qR_c (A := A) (fun b hb => ⟨(fr_ui_n (fun z => absurd z.1 (by decide))).trans (fr_ui_n (fun z => absurd z.1 (by decide))), (fr_ui_n (fun z => absurd z.1 (by decide))).trans (fr_ui_n (fun z => absurd z.1 (by decide)))⟩)] at i3
        refine ⟨fun k a b h1 h2 => (i1 k a b h1 h2).trans ((fr_ui_n (fun z => h1 (by omega))).trans (fr_ui_n (fun z => h1 (by omega)))), ?_, i3, by omega⟩
        rw [i2]
        simp [fr_ui]
    · rw [if_neg c, List.filter_cons_of_pos (by simp [c])]
      have hso : ∀ s, rl_so now s (A 69 0 (16 * r + j), A 70 0 (16 * r + j)) = s := fun s => if_neg c
      rw [hso]
      have hv : (fr_ui A 69 0 (16 * r + l) (A 69 0 (16 * r + j))) 70 0 (16 * r + j) = A 70 0 (16 * r + j) := fr_ui_n (fun z => absurd z.1 (by decide))
      rw [hv]
      dsimp only
      have hk : ∀ k a b, ¬ ((k = 69 ∨ k = 70) ∧ b = 16 * r + l) → (fr_ui (fr_ui A 69 0 (16 * r + l) (A 69 0 (16 * r + j))) 70 0 (16 * r + l) (A 70 0 (16 * r + j))) k a b = A k a b := fun k a b h => (fr_ui_n (fun z => h (by omega))).trans (fr_ui_n (fun z => h (by omega)))
      have e1 : (fr_ui (fr_ui A 69 0 (16 * r + l) (A 69 0 (16 * r + j))) 70 0 (16 * r + l) (A 70 0 (16 * r + j))) 69 0 (16 * r + l) = A 69 0 (16 * r + j) := by simp [fr_ui]
      have e2 : (fr_ui (fr_ui A 69 0 (16 * r + l) (A 69 0 (16 * r + j))) 70 0 (16 * r + l) (A 70 0 (16 * r + j))) 70 0 (16 * r + l) = A 70 0 (16 * r + j) := by simp [fr_ui]
      generalize fr_ui (fr_ui A 69 0 (16 * r + l) (A 69 0 (16 * r + j))) 70 0 (16 * r + l) (A 70 0 (16 * r + j)) = A1 at *
      obtain ⟨i1, i2, i3, i4⟩ := ih (j + 1) (l + 1) A1 (by omega) (by omega) ((hk 20 0 1 (by omega)).trans hn)
      have hr : rl_qR A1 r (l + 1) = rl_qR A r l ++ [(A 69 0 (16 * r + j), A 70 0 (16 * r + j))] := by
        unfold rl_qR
        rw [List.range_succ, List.map_append]
        refine congr (congrArg _ (List.map_congr_left (fun i hi => ?_))) ?_
        · have := List.mem_range.mp hi
          rw [hk 69 _ _ (by omega), hk 70 _ _ (by omega)]
        · show [(A1 69 0 (16 * r + l), A1 70 0 (16 * r + l))] = _
          rw [e1, e2]
      rw [rl_sg_c K (j + 1) (A := A) (fun b hb => ⟨hk 69 _ _ (by omega), hk 70 _ _ (by omega)⟩)] at i2 i3
      refine ⟨fun k a b h1 h2 => (i1 k a b h1 (by omega)).trans (hk k a b (by omega)), ?_, ?_, by omega⟩
      · rw [i2, hk 71 _ _ (by omega), hk 72 _ _ (by omega)]
      · rw [i3, hr, List.append_assoc]; rfl
