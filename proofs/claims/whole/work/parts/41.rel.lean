-- the relation of both states: the class's cells are read from I, J, the reference's from A, B; T is the time
def rl_set (I A : fr_I) (r : Nat) : Prop :=
  I 7 r 0 = A 42 0 r ∧ I 7 r 7 = A 45 0 r ∧ I 7 r 8 = A 46 0 r ∧ I 8 r 2 = A 47 0 r ∧ I 8 r 3 = A 48 0 r ∧ I 8 r 4 = A 49 0 r ∧ I 7 r 4 = A 50 0 r ∧ I 7 r 5 = A 51 0 r ∧ I 7 r 6 = A 52 0 r ∧ I 11 r 3 = A 53 0 r ∧ I 10 r 1 = A 44 0 r ∧ I 11 r 0 = (if I 7 r 0 = -1 then 0 else 1)
def rl_val (I : fr_I) (r : Nat) : Prop :=
  fr_nn (I 7 r 7) 2001 ∧ fr_nn (I 7 r 8) 20001 ∧ fr_nn (I 11 r 3) 9 ∧ (I 8 r 2 = 0 ∨ I 8 r 2 = 1 ∨ I 8 r 2 = 2) ∧ fr_nn (I 8 r 3) 5001 ∧ fr_nn (I 8 r 4) 1001
def rl_brk (I A : fr_I) (r : Nat) : Prop :=
  I 10 r 0 = A 43 0 r ∧ I 10 r 2 = A 65 0 r ∧ I 10 r 3 = A 62 0 r ∧ I 10 r 5 = A 66 0 r ∧ I 10 r 7 = A 61 0 r ∧ I 10 r 8 = A 63 0 r ∧ I 10 r 9 = A 64 0 r ∧ I 10 r 10 = A 67 0 r ∧ A 60 0 r = (if I 10 r 6 = 0 then 0 else (if I 10 r 4 = 0 then 2 else 1))
def rl_met (I : fr_I) (J : fr_J) (A : fr_I) (B : fr_J) (r : Nat) : Prop :=
  I 8 r 6 = A 56 0 r ∧ J 8 r 7 = B 55 0 r ∧ (∀ i, i < 4 → A 54 0 (4 * r + i) = I 9 r (((I 8 r 1).toNatClampNeg + i) % 4)) ∧ (∀ i, i < 4 → fr_nn (I 9 r i) 176001) ∧ I 8 r 5 = f_M_rootOfMeanSquare I r
/-- the number of a message tells its state -/
def rl_mk (q : Nat) : Nat := 2 * q + q % 2
def rl_wir (T : Nat) (I A : fr_I) (r : Nat) : Prop :=
  I 11 r 4 = A 57 0 r ∧ I 11 r 8 = A 58 0 r ∧ I 11 r 7 = A 59 0 r ∧ I 11 r 5 = A 71 0 r ∧ I 11 r 6 = A 72 0 r ∧ (∃ q, q ≤ T ∧ I 11 r 4 = nI q ∧ I 8 r 6 = nI (q % 2)) ∧ (∃ q, q ≤ T ∧ I 11 r 5 = nI (rl_mk q)) ∧
  (∃ d, I 11 r 8 = nI d ∧ (d = 0 ∨ (T < d ∧ d ≤ T + 8 ∧ (I 11 r 7 = 1 ∨ I 11 r 7 = 2 ∨ I 11 r 7 = 4 ∨ I 11 r 7 = 8))))
def rl_qR (A : fr_I) (r u : Nat) : List (Int32 × Int32) := (List.range u).map (fun i => (A 69 0 (16 * r + i), A 70 0 (16 * r + i)))
def rl_qC (I : fr_I) (r T : Nat) : List (Int32 × Int32) := (List.range 8).map (fun i => (I 13 r ((T + 1 + i) % 8), I 12 r ((T + 1 + i) % 8)))
def rl_que (T : Nat) (I A : fr_I) (r : Nat) : Prop :=
  (∀ p, p < 8 → ∃ q, q ≤ T ∧ I 12 r p = nI (rl_mk q)) ∧ (∀ i, i < 8 → ∃ c, c ≤ T + 1 + i ∧ I 13 r ((T + 1 + i) % 8) = nI c) ∧
  (∃ u, u ≤ 8 ∧ A 68 0 r = nI u ∧ rl_qR A r u = (rl_qC I r T).filter (fun e => decide (nI T < e.1)))
def rl_jou (I A : fr_I) : Prop := I 4 0 2 = A 20 0 33 ∧ I 4 0 3 = A 20 0 34 ∧ (∀ i, I 5 0 i = A 75 0 i) ∧ (∀ i, I 6 0 i = A 76 0 i)
def rl_one (T : Nat) (I : fr_I) (J : fr_J) (A : fr_I) (B : fr_J) (r : Nat) : Prop := rl_set I A r ∧ rl_val I r ∧ rl_brk I A r ∧ rl_met I J A B r ∧ rl_wir T I A r ∧ rl_que T I A r
def rl_all (n T : Nat) (I : fr_I) (J : fr_J) (A : fr_I) (B : fr_J) : Prop :=
  fr_wf n I ∧ fr_mw n A ∧ I 0 0 5 = nI T ∧ A 20 0 1 = nI T ∧ rl_jou I A ∧ ∀ r, r < n → rl_one T I J A B r
/-- what a relay to come finds in the reference's arrays -/
def rl_fre (n : Nat) (A : fr_I) (B : fr_J) : Prop := ∀ r, n ≤ r → (∀ k, 43 ≤ k → k ≤ 72 → k ≠ 54 → k ≠ 69 → k ≠ 70 → A k 0 r = 0) ∧ (∀ i, i < 4 → A 54 0 (4 * r + i) = 0) ∧ B 55 0 r = 0
def rl_inv (c n : Nat) (I : fr_I) (J : fr_J) : Prop := ∃ T, T ≤ 20 * c ∧ rl_all n T I J I J ∧ (T = 0 → rl_fre n I J)
theorem rl_fre.congr {n : Nat} {A A' : fr_I} {B B' : fr_J} (hA : ∀ k a b, 20 ≤ k → A' k a b = A k a b) (hB : ∀ k a b, 20 ≤ k → B' k a b = B k a b) (h : rl_fre n A B) : rl_fre n A' B' := fun r hr =>
  ⟨fun k h1 h2 h3 h4 h5 => (hA k 0 r (by omega)).trans ((h r hr).1 k h1 h2 h3 h4 h5), fun i hi => (hA 54 0 _ (by decide)).trans ((h r hr).2.1 i hi), (hB 55 0 r (by decide)).trans (h r hr).2.2⟩
theorem rl_fre_ui {n k r : Nat} {A : fr_I} {B : fr_J} {v : Int32} (hk : k ≠ 54) (hr : r < n) (h : rl_fre n A B) : rl_fre n (fr_ui A k 0 r v) B := fun q hq =>
  ⟨fun k' h1 h2 h3 h4 h5 => (fr_ui_n (fun z => by omega)).trans ((h q hq).1 k' h1 h2 h3 h4 h5), fun i hi => (fr_ui_n (fun z => by omega)).trans ((h q hq).2.1 i hi), (h q hq).2.2⟩
theorem rl_fre_u4 {n r i : Nat} {A : fr_I} {B : fr_J} {v : Int32} (hi : i < 4) (hr : r < n) (h : rl_fre n A B) : rl_fre n (fr_ui A 54 0 (4 * r + i) v) B := fun q hq =>
  ⟨fun k' h1 h2 h3 h4 h5 => (fr_ui_n (fun z => by omega)).trans ((h q hq).1 k' h1 h2 h3 h4 h5), fun j hj => (fr_ui_n (fun z => by omega)).trans ((h q hq).2.1 j hj), (h q hq).2.2⟩
theorem rl_fre_20 {n r j : Nat} {A : fr_I} {B : fr_J} {v : Int32} (h : rl_fre n A B) : rl_fre n (fr_ui A 20 r j v) B := fun q hq =>
  ⟨fun k' h1 h2 h3 h4 h5 => (fr_ui_n (fun z => by omega)).trans ((h q hq).1 k' h1 h2 h3 h4 h5), fun j hj => (fr_ui_n (fun z => by omega)).trans ((h q hq).2.1 j hj), (h q hq).2.2⟩
theorem rl_fre_uj {n r : Nat} {A : fr_I} {B : fr_J} {v : Int64} (hr : r < n) (h : rl_fre n A B) : rl_fre n A (fr_uj B 55 0 r v) := fun q hq =>
  ⟨(h q hq).1, (h q hq).2.1, (fr_uj_n (fun z => by omega)).trans (h q hq).2.2⟩
-- only the own cells count
theorem rl_one.congr {T : Nat} {I I' : fr_I} {J J' : fr_J} {A A' : fr_I} {B B' : fr_J} {r : Nat} (hI : ∀ k a b, k < 20 → I' k a b = I k a b) (hJ : ∀ k a b, k < 20 → J' k a b = J k a b) (hA : ∀ k a b, 20 ≤ k → A' k a b = A k a b) (hB : ∀ k a b, 20 ≤ k → B' k a b = B k a b) (h : rl_one T I J A B r) : rl_one T I' J' A' B' r := by
  have h1 : ∀ a b, I' 7 a b = I 7 a b := fun a b => hI 7 a b (by decide)
  have h2 : ∀ a b, I' 8 a b = I 8 a b := fun a b => hI 8 a b (by decide)
  have h3 : ∀ a b, I' 9 a b = I 9 a b := fun a b => hI 9 a b (by decide)
  have h4 : ∀ a b, I' 10 a b = I 10 a b := fun a b => hI 10 a b (by decide)
  have h5 : ∀ a b, I' 11 a b = I 11 a b := fun a b => hI 11 a b (by decide)
  have h6 : ∀ a b, I' 12 a b = I 12 a b := fun a b => hI 12 a b (by decide)
  have h7 : ∀ a b, I' 13 a b = I 13 a b := fun a b => hI 13 a b (by decide)
  have hj : ∀ a b, J' 8 a b = J 8 a b := fun a b => hJ 8 a b (by decide)
  have hb : ∀ a b, B' 55 a b = B 55 a b := fun a b => hB 55 a b (by decide)
  have hr : f_M_rootOfMeanSquare I' r = f_M_rootOfMeanSquare I r := by unfold f_M_rootOfMeanSquare; simp only [h3]
  unfold rl_one rl_set rl_val rl_brk rl_met rl_wir rl_que rl_qR rl_qC at h ⊢
  simp only [h1, h2, h3, h4, h5, h6, h7, hj, hb, hr, hA 42 _ _ (by decide), hA 43 _ _ (by decide), hA 44 _ _ (by decide), hA 45 _ _ (by decide), hA 46 _ _ (by decide), hA 47 _ _ (by decide), hA 48 _ _ (by decide), hA 49 _ _ (by decide), hA 50 _ _ (by decide), hA 51 _ _ (by decide), hA 52 _ _ (by decide), hA 53 _ _ (by decide), hA 54 _ _ (by decide), hA 56 _ _ (by decide), hA 57 _ _ (by decide), hA 58 _ _ (by decide), hA 59 _ _ (by decide), hA 60 _ _ (by decide), hA 61 _ _ (by decide), hA 62 _ _ (by decide), hA 63 _ _ (by decide), hA 64 _ _ (by decide), hA 65 _ _ (by decide), hA 66 _ _ (by decide), hA 67 _ _ (by decide), hA 68 _ _ (by decide), hA 69 _ _ (by decide), hA 70 _ _ (by decide), hA 71 _ _ (by decide), hA 72 _ _ (by decide)]
  exact h
theorem rl_all.congr {n T : Nat} {I I' : fr_I} {J J' : fr_J} {A A' : fr_I} {B B' : fr_J} (hI : ∀ k a b, k < 20 → I' k a b = I k a b) (hJ : ∀ k a b, k < 20 → J' k a b = J k a b) (hA : ∀ k a b, 20 ≤ k → A' k a b = A k a b) (hB : ∀ k a b, 20 ≤ k → B' k a b = B k a b) (h : rl_all n T I J A B) : rl_all n T I' J' A' B' := by
  obtain ⟨h1, h2, h3, h4, ⟨j1, j2, j3, j4⟩, h6⟩ := h
  refine ⟨fw_of (fun a b c hs => hI a b c ?_) h1, fm_of (fun a b c hs => hA a b c ?_) h2, (hI 0 0 5 (by decide)).trans h3, (hA 20 0 1 (by decide)).trans h4, ⟨?_, ?_, fun i => ?_, fun i => ?_⟩, fun r hr => (h6 r hr).congr hI hJ hA hB⟩
  · unfold fr_wfs at hs; simp at hs; omega
  · unfold fr_mws at hs; simp at hs; omega
  · rw [hI 4 0 2 (by decide), hA 20 0 33 (by decide)]; exact j1
  · rw [hI 4 0 3 (by decide), hA 20 0 34 (by decide)]; exact j2
  · rw [hI 5 0 i (by decide), hA 75 0 i (by decide)]; exact j3 i
  · rw [hI 6 0 i (by decide), hA 76 0 i (by decide)]; exact j4 i
-- what a side's stores keep of the other side
def rl_kO (I0 : fr_I) (I : fr_I) : Prop := ∀ k a b, 20 ≤ k → I k a b = I0 k a b
def rl_kC (I0 : fr_I) (I : fr_I) : Prop := ∀ k a b, k < 20 → I k a b = I0 k a b
def rl_kOJ (I0 : fr_J) (I : fr_J) : Prop := ∀ k a b, 20 ≤ k → I k a b = I0 k a b
def rl_kCJ (I0 : fr_J) (I : fr_J) : Prop := ∀ k a b, k < 20 → I k a b = I0 k a b
theorem rl_kO_st {I0 : fr_I} : fr_cst (rl_kO I0) := fun {I k r j v} hk h a b c ha => (fr_ui_n (fun z => by omega)).trans (h a b c ha)
theorem rl_kC_st {I0 : fr_I} : fr_ost (rl_kC I0) := fun {I k r j v} hk h a b c ha => (fr_ui_n (fun z => by omega)).trans (h a b c ha)
theorem rl_kOJ_st {I0 : fr_J} : fr_cstJ (rl_kOJ I0) := fun {I k r j v} hk h a b c ha => (fr_uj_n (fun z => by omega)).trans (h a b c ha)
theorem rl_kCJ_st {I0 : fr_J} : fr_ostJ (rl_kCJ I0) := fun {I k r j v} hk h a b c ha => (fr_uj_n (fun z => by omega)).trans (h a b c ha)
/-- a pair of calls that make nothing -/
theorem lx_mk {X : fr_X} {Inv' : Nat → fr_I → fr_J → Prop} {yF : MethodName} {cF : ByteArray} {nF : Nat} {rF : Option FieldType} {yO : MethodName} {cO : ByteArray} {nO : Nat} {rO : Option FieldType} {As : List Value} {n : Nat} {I : fr_I} {J : fr_J} {RF RO : Room} {x y : Int32} {I1 I2 : fr_I} {J1 J2 : fr_J}
    (hF : fr_Ct X yF cF nF rF RF (.ref (fr_ad X 0 0) :: As) (fr_Z0 X n) (fr_Z0 X n) I J (fr_pi (fun z I' J' => x = z ∧ I1 = I' ∧ J1 = J'))) (hO : fr_Ct X yO cO nO rO RO (.ref (fr_ad X 20 0) :: As) (fr_Z0 X n) (fr_Z0 X n) I1 J1 (fr_pi (fun z I' J' => y = z ∧ I2 = I' ∧ J2 = J')))
    (h1 : RF.frames ≤ 7 ∧ RF.locals ≤ 200 ∧ RF.cells = 0 ∧ RF.slots = 0) (h2 : RO.frames ≤ 7 ∧ RO.locals ≤ 200 ∧ RO.cells = 0 ∧ RO.slots = 0) (hxy : x = y) (hI : Inv' n I2 J2) : lx_P X Inv' yF cF nF rF yO cO nO rO As n I J := by
  subst hxy
  exact ⟨RF, RO, x, n, I1, I2, J1, J2, ⟨h1.1, h1.2.1⟩, ⟨h2.1, h2.2.1⟩, ⟨Nat.le_refl _, by rw [h1.2.2.1]; omega, by rw [h1.2.2.2]; omega⟩, h2.2.2, hF, hO, hI⟩
theorem lx_mkL {X : fr_X} {Inv' : Nat → fr_I → fr_J → Prop} {yF : MethodName} {cF : ByteArray} {nF : Nat} {rF : Option FieldType} {yO : MethodName} {cO : ByteArray} {nO : Nat} {rO : Option FieldType} {As : List Value} {n : Nat} {I : fr_I} {J : fr_J} {RF RO : Room} {x y : Int64} {I1 I2 : fr_I} {J1 J2 : fr_J}
    (hF : fr_Ct X yF cF nF rF RF (.ref (fr_ad X 0 0) :: As) (fr_Z0 X n) (fr_Z0 X n) I J (fr_pl (fun z I' J' => x = z ∧ I1 = I' ∧ J1 = J'))) (hO : fr_Ct X yO cO nO rO RO (.ref (fr_ad X 20 0) :: As) (fr_Z0 X n) (fr_Z0 X n) I1 J1 (fr_pl (fun z I' J' => y = z ∧ I2 = I' ∧ J2 = J')))
    (h1 : RF.frames ≤ 7 ∧ RF.locals ≤ 200 ∧ RF.cells = 0 ∧ RF.slots = 0) (h2 : RO.frames ≤ 7 ∧ RO.locals ≤ 200 ∧ RO.cells = 0 ∧ RO.slots = 0) (hxy : x = y) (hI : Inv' n I2 J2) : lx_PL X Inv' yF cF nF rF yO cO nO rO As n I J := by
  subst hxy
  exact ⟨RF, RO, x, n, I1, I2, J1, J2, ⟨h1.1, h1.2.1⟩, ⟨h2.1, h2.2.1⟩, ⟨Nat.le_refl _, by rw [h1.2.2.1]; omega, by rw [h1.2.2.2]; omega⟩, h2.2.2, hF, hO, hI⟩
/-- the class moves on from I to I1 (and J1), the reference from there on to I2: what is known of both steps, put together -/
theorem rl_glue {n T T' : Nat} {I : fr_I} {J : fr_J} {I1 I2 : fr_I} {J1 J2 : fr_J} (kO : rl_kO I I1) (kOJ : rl_kOJ J J1) (kC : rl_kC I1 I2) (kCJ : rl_kCJ J1 J2) (h : rl_all n T I J I J) (step : rl_all n T I J I1 J1 → rl_all n T' I1 J1 I2 J2) : rl_all n T' I2 J2 I2 J2 :=
  (step (h.congr (fun _ _ _ _ => rfl) (fun _ _ _ _ => rfl) kO kOJ)).congr kC kCJ (fun _ _ _ _ => rfl) (fun _ _ _ _ => rfl)
theorem rl_inv_8 (c n : Nat) (I : fr_I) (J : fr_J) (h : rl_inv c n I J) : n ≤ 8 := by
  obtain ⟨T, hT, hR, _⟩ := h
  exact hR.1.1
theorem rl_inv_m (c n : Nat) (I : fr_I) (J : fr_J) (h : rl_inv c n I J) : rl_inv (c + 1) n I J := by
  obtain ⟨T, hT, hR⟩ := h
  exact ⟨T, by omega, hR⟩
theorem rl_none {n T : Nat} {I : fr_I} {J : fr_J} {A : fr_I} {B : fr_J} (h : rl_all n T I J A B) {x : Int32} (hx : f_F_isRelay I x = 0) : f_O_none A x = 1 := by
  have h8 := h.1.1
  unfold f_O_none
  rw [fm_cnt h.2.1]
  rcases fr_isR_0 h.1 hx with h1 | h1
  · rw [if_pos h1]
  · by_cases h2 : x < 0
    · rw [if_pos h2]
    · rw [if_neg h2, if_neg (k2_nlt h1)]
