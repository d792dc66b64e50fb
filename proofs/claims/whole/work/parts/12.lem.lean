def fr_rm (d : Nat) : Room := { frames := d, cells := 0, slots := 0, locals := 40 * d }
/-- the world when n relays stand -/
def fr_Z0 (X : fr_X) (n : Nat) : fr_Z := (fr_P0 n, fr_lv n, X.2.2.2 + 41 + 7 * n)
theorem fr_tIx {x : Int32} {I : fr_I} {J : fr_J} {t : Int32 × fr_I} (h : t = (x, I)) : t.1 = x ∧ t.2 = I ∧ J = J := by subst h; exact ⟨rfl, rfl, rfl⟩
theorem fr_tJx {x : Int32} {I : fr_I} {J : fr_J} {t : Int32 × fr_J} (h : t = (x, J)) : t.1 = x ∧ I = I ∧ t.2 = J := by subst h; exact ⟨rfl, rfl, rfl⟩
theorem fr_tIJx {x : Int32} {I : fr_I} {J : fr_J} {t : Int32 × fr_I × fr_J} (h : t = (x, I, J)) : t.1 = x ∧ t.2.1 = I ∧ t.2.2 = J := by subst h; exact ⟨rfl, rfl, rfl⟩
theorem fr_tIJ {I : fr_I} {J : fr_J} {t : fr_I × fr_J} (h : t = (I, J)) : t.1 = I ∧ t.2 = J := by subst h; exact ⟨rfl, rfl⟩
theorem fr_inc (a : Nat) : nI a + Int32.ofInt 1 = nI (a + 1) := nI_1 a
theorem fr_dec (a : Nat) : nI (a + 1) + Int32.ofInt (-1) = nI a := pk_m1 a
theorem fr_down {P : Nat → Prop} (e : Nat) (he : P e) (hs : ∀ i, i < e → P (i + 1) → P i) : ∀ i, i ≤ e → P i := by
  have key : ∀ d i, i + d = e → P i := by
    intro d
    induction d with
    | zero => intro i h; have : i = e := by omega
              rw [this]; exact he
    | succ d ih => intro i h; exact hs i (by omega) (ih (i + 1) (by omega))
  intro i hi
  exact key (e - i) i (by omega)
theorem fr_im1 : Int32.ofInt (-1) = -1 := by decide
theorem fr_i0 : Int32.ofInt 0 = 0 := by decide
theorem fr_i1 : Int32.ofInt 1 = 1 := by decide
theorem fr_i2 : Int32.ofInt 2 = 2 := by decide
theorem fr_i3 : Int32.ofInt 3 = 3 := by decide
theorem fr_i4 : Int32.ofInt 4 = 4 := by decide
theorem fr_i5 : Int32.ofInt 5 = 5 := by decide
theorem fr_b6 : (Int8.ofInt 6).toInt32 = 6 := by decide
theorem fr_b7 : (Int8.ofInt 7).toInt32 = 7 := by decide
theorem fr_b8 : (Int8.ofInt 8).toInt32 = 8 := by decide
theorem fr_b10 : (Int8.ofInt 10).toInt32 = 10 := by decide
theorem fr_b12 : (Int8.ofInt 12).toInt32 = 12 := by decide
theorem fr_b16 : (Int8.ofInt 16).toInt32 = 16 := by decide
theorem fr_b20 : (Int8.ofInt 20).toInt32 = 20 := by decide
theorem fr_b30 : (Int8.ofInt 30).toInt32 = 30 := by decide
theorem fr_b31 : (Int8.ofInt 31).toInt32 = 31 := by decide
theorem fr_b32 : (Int8.ofInt 32).toInt32 = 32 := by decide
theorem fr_b50 : (Int8.ofInt 50).toInt32 = 50 := by decide
theorem fr_b64 : (Int8.ofInt 64).toInt32 = 64 := by decide
theorem fr_b100 : (Int8.ofInt 100).toInt32 = 100 := by decide
theorem fr_s128 : (Int16.ofInt 128).toInt32 = 128 := by decide
theorem fr_s200 : (Int16.ofInt 200).toInt32 = 200 := by decide
theorem fr_s1000 : (Int16.ofInt 1000).toInt32 = 1000 := by decide
theorem fr_s2000 : (Int16.ofInt 2000).toInt32 = 2000 := by decide
theorem fr_s5000 : (Int16.ofInt 5000).toInt32 = 5000 := by decide
theorem fr_s20000 : (Int16.ofInt 20000).toInt32 = 20000 := by decide
theorem fr_l0 : Int64.ofNat ((0 : Fin 2) : Nat) = 0 := by decide
theorem fr_l1 : Int64.ofNat ((1 : Fin 2) : Nat) = 1 := by decide
theorem fr_if10 {c : Prop} [Decidable c] : (if c then (1 : Int32) else 0) = 0 ∨ (if c then (1 : Int32) else 0) = 1 := by
  by_cases h : c
  · exact Or.inr (if_pos h)
  · exact Or.inl (if_neg h)
theorem fr_if01 {c : Prop} [Decidable c] : (if c then (0 : Int32) else 1) = 0 ∨ (if c then (0 : Int32) else 1) = 1 := by
  by_cases h : c
  · exact Or.inl (if_pos h)
  · exact Or.inr (if_neg h)
section FRtern
variable {X : fr_X} {E : fr_E} {own nm : String} {cc : ByteArray} {nL : Nat} {ret : Option FieldType} {R : Room} {Q : State → Prop} {cs sl : Nat} {Z : fr_Z} {pc : Nat} {L : List (Nat × Value)} {st : List Value} {I : fr_I} {J : fr_J}
theorem fr_tif_eq {x a b : Int32} {off : Int} {t j : Nat} (d : decode cc pc = .ok (.ifCond .eq off, 3)) (ht : (pc : Int) + off = (t : Int)) (k1 : fr_Ev X E own nm cc nL ret R Q cs sl Z j L (.int a :: st) I J → fr_Ev X E own nm cc nL ret R Q cs sl Z (pc + 3) L st I J) (k2 : fr_Ev X E own nm cc nL ret R Q cs sl Z j L (.int b :: st) I J → fr_Ev X E own nm cc nL ret R Q cs sl Z t L st I J) (kk : fr_Ev X E own nm cc nL ret R Q cs sl Z j L (.int (if x = 0 then b else a) :: st) I J) : fr_Ev X E own nm cc nL ret R Q cs sl Z pc L (.int x :: st) I J := fr_if_eq t d ht (fun h => k2 (by rw [if_pos h] at kk; exact kk)) (fun h => k1 (by rw [if_neg h] at kk; exact kk))
theorem fr_tif_ne {x a b : Int32} {off : Int} {t j : Nat} (d : decode cc pc = .ok (.ifCond .ne off, 3)) (ht : (pc : Int) + off = (t : Int)) (k1 : fr_Ev X E own nm cc nL ret R Q cs sl Z j L (.int a :: st) I J → fr_Ev X E own nm cc nL ret R Q cs sl Z (pc + 3) L st I J) (k2 : fr_Ev X E own nm cc nL ret R Q cs sl Z j L (.int b :: st) I J → fr_Ev X E own nm cc nL ret R Q cs sl Z t L st I J) (kk : fr_Ev X E own nm cc nL ret R Q cs sl Z j L (.int (if x = 0 then a else b) :: st) I J) : fr_Ev X E own nm cc nL ret R Q cs sl Z pc L (.int x :: st) I J := fr_if_ne t d ht (fun h => k2 (by rw [if_neg h] at kk; exact kk)) (fun h => k1 (by rw [if_pos h] at kk; exact kk))
theorem fr_tif_lt {x a b : Int32} {off : Int} {t j : Nat} (d : decode cc pc = .ok (.ifCond .lt off, 3)) (ht : (pc : Int) + off = (t : Int)) (k1 : fr_Ev X E own nm cc nL ret R Q cs sl Z j L (.int a :: st) I J → fr_Ev X E own nm cc nL ret R Q cs sl Z (pc + 3) L st I J) (k2 : fr_Ev X E own nm cc nL ret R Q cs sl Z j L (.int b :: st) I J → fr_Ev X E own nm cc nL ret R Q cs sl Z t L st I J) (kk : fr_Ev X E own nm cc nL ret R Q cs sl Z j L (.int (if x < 0 then b else a) :: st) I J) : fr_Ev X E own nm cc nL ret R Q cs sl Z pc L (.int x :: st) I J := fr_if_lt t d ht (fun h => k2 (by rw [if_pos h] at kk; exact kk)) (fun h => k1 (by rw [if_neg h] at kk; exact kk))
theorem fr_tif_ge {x a b : Int32} {off : Int} {t j : Nat} (d : decode cc pc = .ok (.ifCond .ge off, 3)) (ht : (pc : Int) + off = (t : Int)) (k1 : fr_Ev X E own nm cc nL ret R Q cs sl Z j L (.int a :: st) I J → fr_Ev X E own nm cc nL ret R Q cs sl Z (pc + 3) L st I J) (k2 : fr_Ev X E own nm cc nL ret R Q cs sl Z j L (.int b :: st) I J → fr_Ev X E own nm cc nL ret R Q cs sl Z t L st I J) (kk : fr_Ev X E own nm cc nL ret R Q cs sl Z j L (.int (if 0 ≤ x then b else a) :: st) I J) : fr_Ev X E own nm cc nL ret R Q cs sl Z pc L (.int x :: st) I J := fr_if_ge t d ht (fun h => k2 (by rw [if_pos h] at kk; exact kk)) (fun h => k1 (by rw [if_neg h] at kk; exact kk))
theorem fr_tif_gt {x a b : Int32} {off : Int} {t j : Nat} (d : decode cc pc = .ok (.ifCond .gt off, 3)) (ht : (pc : Int) + off = (t : Int)) (k1 : fr_Ev X E own nm cc nL ret R Q cs sl Z j L (.int a :: st) I J → fr_Ev X E own nm cc nL ret R Q cs sl Z (pc + 3) L st I J) (k2 : fr_Ev X E own nm cc nL ret R Q cs sl Z j L (.int b :: st) I J → fr_Ev X E own nm cc nL ret R Q cs sl Z t L st I J) (kk : fr_Ev X E own nm cc nL ret R Q cs sl Z j L (.int (if 0 < x then b else a) :: st) I J) : fr_Ev X E own nm cc nL ret R Q cs sl Z pc L (.int x :: st) I J := fr_if_gt t d ht (fun h => k2 (by rw [if_pos h] at kk; exact kk)) (fun h => k1 (by rw [if_neg h] at kk; exact kk))
theorem fr_tif_le {x a b : Int32} {off : Int} {t j : Nat} (d : decode cc pc = .ok (.ifCond .le off, 3)) (ht : (pc : Int) + off = (t : Int)) (k1 : fr_Ev X E own nm cc nL ret R Q cs sl Z j L (.int a :: st) I J → fr_Ev X E own nm cc nL ret R Q cs sl Z (pc + 3) L st I J) (k2 : fr_Ev X E own nm cc nL ret R Q cs sl Z j L (.int b :: st) I J → fr_Ev X E own nm cc nL ret R Q cs sl Z t L st I J) (kk : fr_Ev X E own nm cc nL ret R Q cs sl Z j L (.int (if x ≤ 0 then b else a) :: st) I J) : fr_Ev X E own nm cc nL ret R Q cs sl Z pc L (.int x :: st) I J := fr_if_le t d ht (fun h => k2 (by rw [if_pos h] at kk; exact kk)) (fun h => k1 (by rw [if_neg h] at kk; exact kk))
theorem fr_ticmp_eq {x y a b : Int32} {off : Int} {t j : Nat} (d : decode cc pc = .ok (.if_icmp .eq off, 3)) (ht : (pc : Int) + off = (t : Int)) (k1 : fr_Ev X E own nm cc nL ret R Q cs sl Z j L (.int a :: st) I J → fr_Ev X E own nm cc nL ret R Q cs sl Z (pc + 3) L st I J) (k2 : fr_Ev X E own nm cc nL ret R Q cs sl Z j L (.int b :: st) I J → fr_Ev X E own nm cc nL ret R Q cs sl Z t L st I J) (kk : fr_Ev X E own nm cc nL ret R Q cs sl Z j L (.int (if x = y then b else a) :: st) I J) : fr_Ev X E own nm cc nL ret R Q cs sl Z pc L (.int y :: .int x :: st) I J := fr_icmp_eq t d ht (fun h => k2 (by rw [if_pos h] at kk; exact kk)) (fun h => k1 (by rw [if_neg h] at kk; exact kk))
theorem fr_ticmp_ne {x y a b : Int32} {off : Int} {t j : Nat} (d : decode cc pc = .ok (.if_icmp .ne off, 3)) (ht : (pc : Int) + off = (t : Int)) (k1 : fr_Ev X E own nm cc nL ret R Q cs sl Z j L (.int a :: st) I J → fr_Ev X E own nm cc nL ret R Q cs sl Z (pc + 3) L st I J) (k2 : fr_Ev X E own nm cc nL ret R Q cs sl Z j L (.int b :: st) I J → fr_Ev X E own nm cc nL ret R Q cs sl Z t L st I J) (kk : fr_Ev X E own nm cc nL ret R Q cs sl Z j L (.int (if x = y then a else b) :: st) I J) : fr_Ev X E own nm cc nL ret R Q cs sl Z pc L (.int y :: .int x :: st) I J := fr_icmp_ne t d ht (fun h => k2 (by rw [if_neg h] at kk; exact kk)) (fun h => k1 (by rw [if_pos h] at kk; exact kk))
theorem fr_ticmp_lt {x y a b : Int32} {off : Int} {t j : Nat} (d : decode cc pc = .ok (.if_icmp .lt off, 3)) (ht : (pc : Int) + off = (t : Int)) (k1 : fr_Ev X E own nm cc nL ret R Q cs sl Z j L (.int a :: st) I J → fr_Ev X E own nm cc nL ret R Q cs sl Z (pc + 3) L st I J) (k2 : fr_Ev X E own nm cc nL ret R Q cs sl Z j L (.int b :: st) I J → fr_Ev X E own nm cc nL ret R Q cs sl Z t L st I J) (kk : fr_Ev X E own nm cc nL ret R Q cs sl Z j L (.int (if x < y then b else a) :: st) I J) : fr_Ev X E own nm cc nL ret R Q cs sl Z pc L (.int y :: .int x :: st) I J := fr_icmp_lt t d ht (fun h => k2 (by rw [if_pos h] at kk; exact kk)) (fun h => k1 (by rw [if_neg h] at kk; exact kk))
theorem fr_ticmp_ge {x y a b : Int32} {off : Int} {t j : Nat} (d : decode cc pc = .ok (.if_icmp .ge off, 3)) (ht : (pc : Int) + off = (t : Int)) (k1 : fr_Ev X E own nm cc nL ret R Q cs sl Z j L (.int a :: st) I J → fr_Ev X E own nm cc nL ret R Q cs sl Z (pc + 3) L st I J) (k2 : fr_Ev X E own nm cc nL ret R Q cs sl Z j L (.int b :: st) I J → fr_Ev X E own nm cc nL ret R Q cs sl Z t L st I J) (kk : fr_Ev X E own nm cc nL ret R Q cs sl Z j L (.int (if y ≤ x then b else a) :: st) I J) : fr_Ev X E own nm cc nL ret R Q cs sl Z pc L (.int y :: .int x :: st) I J := fr_icmp_ge t d ht (fun h => k2 (by rw [if_pos h] at kk; exact kk)) (fun h => k1 (by rw [if_neg h] at kk; exact kk))
theorem fr_ticmp_gt {x y a b : Int32} {off : Int} {t j : Nat} (d : decode cc pc = .ok (.if_icmp .gt off, 3)) (ht : (pc : Int) + off = (t : Int)) (k1 : fr_Ev X E own nm cc nL ret R Q cs sl Z j L (.int a :: st) I J → fr_Ev X E own nm cc nL ret R Q cs sl Z (pc + 3) L st I J) (k2 : fr_Ev X E own nm cc nL ret R Q cs sl Z j L (.int b :: st) I J → fr_Ev X E own nm cc nL ret R Q cs sl Z t L st I J) (kk : fr_Ev X E own nm cc nL ret R Q cs sl Z j L (.int (if y < x then b else a) :: st) I J) : fr_Ev X E own nm cc nL ret R Q cs sl Z pc L (.int y :: .int x :: st) I J := fr_icmp_gt t d ht (fun h => k2 (by rw [if_pos h] at kk; exact kk)) (fun h => k1 (by rw [if_neg h] at kk; exact kk))
theorem fr_ticmp_le {x y a b : Int32} {off : Int} {t j : Nat} (d : decode cc pc = .ok (.if_icmp .le off, 3)) (ht : (pc : Int) + off = (t : Int)) (k1 : fr_Ev X E own nm cc nL ret R Q cs sl Z j L (.int a :: st) I J → fr_Ev X E own nm cc nL ret R Q cs sl Z (pc + 3) L st I J) (k2 : fr_Ev X E own nm cc nL ret R Q cs sl Z j L (.int b :: st) I J → fr_Ev X E own nm cc nL ret R Q cs sl Z t L st I J) (kk : fr_Ev X E own nm cc nL ret R Q cs sl Z j L (.int (if x ≤ y then b else a) :: st) I J) : fr_Ev X E own nm cc nL ret R Q cs sl Z pc L (.int y :: .int x :: st) I J := fr_icmp_le t d ht (fun h => k2 (by rw [if_pos h] at kk; exact kk)) (fun h => k1 (by rw [if_neg h] at kk; exact kk))
end FRtern
