/-! The pure side. Numbers, loops, and the grid in two strides. -/
theorem qn0 : (0 : Int32) = nI 0 := rfl
theorem qn1 : (1 : Int32) = nI 1 := rfl
theorem qn2 : (2 : Int32) = nI 2 := rfl
theorem qn3 : (3 : Int32) = nI 3 := rfl
theorem qn4 : (4 : Int32) = nI 4 := rfl
theorem qn5 : (5 : Int32) = nI 5 := rfl
theorem qn6 : (6 : Int32) = nI 6 := rfl
theorem qn7 : (7 : Int32) = nI 7 := rfl
theorem qn9 : (9 : Int32) = nI 9 := rfl
theorem qn10 : (10 : Int32) = nI 10 := rfl
theorem qn20 : (20 : Int32) = nI 20 := rfl
theorem qn32 : (32 : Int32) = nI 32 := rfl
theorem qn48 : (48 : Int32) = nI 48 := rfl
theorem qn57 : (57 : Int32) = nI 57 := rfl
theorem qn59 : (59 : Int32) = nI 59 := rfl
theorem qn71 : (71 : Int32) = nI 71 := rfl
theorem qn84 : (84 : Int32) = nI 84 := rfl
theorem qn88 : (88 : Int32) = nI 88 := rfl
theorem qn89 : (89 : Int32) = nI 89 := rfl
theorem qn90 : (90 : Int32) = nI 90 := rfl
theorem qn100 : (100 : Int32) = nI 100 := rfl
theorem qn126 : (126 : Int32) = nI 126 := rfl
theorem qn160 : (160 : Int32) = nI 160 := rfl
theorem qn240 : (240 : Int32) = nI 240 := rfl
theorem qn400 : (400 : Int32) = nI 400 := rfl
theorem qm1 : (-1 : Int32).toInt = -1 := rfl
theorem nI_in' {c : Nat} (h : c < 400) : ¬ (nI c < 0 ∨ 400 ≤ c) := by
  rintro (h1 | h1)
  · exact nI_pos (by omega) h1
  · omega
theorem nI_in'n {c n : Nat} (h : c < n) (hn : n ≤ 400) : ¬ (nI c < 0 ∨ n ≤ c) := by
  rintro (h1 | h1)
  · exact nI_pos (by omega) h1
  · omega
theorem nb0 : vp_nar .boolean 0 = 0 := rfl
theorem nb1 : vp_nar .boolean 1 = 1 := rfl
/-- a loop that counts up, with an invariant, and an end ahead of time -/
theorem loopE {σ ρ : Type} (F : Nat → Nat → σ → Option ρ) (b : Nat) (P : Nat → σ → Prop) (Q : ρ → Prop)
    (hs : ∀ n a s, a < b → P a s → (∃ s', P (a + 1) s' ∧ F (n + 1) a s = F n (a + 1) s') ∨ ∃ r, Q r ∧ F (n + 1) a s = some r)
    (he : ∀ n s, P b s → ∃ r, Q r ∧ F (n + 1) b s = some r) : ∀ (d n a : Nat) (s : σ), a + d = b → d < n → P a s → ∃ r, Q r ∧ F n a s = some r := by
  intro d
  induction d with
  | zero =>
    intro n a s e hn hP
    obtain ⟨n, rfl⟩ : ∃ k, n = k + 1 := ⟨n - 1, by omega⟩
    have : a = b := by omega
    subst this
    exact he n s hP
  | succ d ih =>
    intro n a s e hn hP
    obtain ⟨n, rfl⟩ : ∃ k, n = k + 1 := ⟨n - 1, by omega⟩
    rcases hs n a s (by omega) hP with ⟨s', h1, h2⟩ | h
    · rw [h2]; exact ih n (a + 1) s' (by omega) (by omega) h1
    · exact h
/-- one that goes through -/
theorem loopI {σ ρ : Type} (F : Nat → Nat → σ → Option ρ) (b : Nat) (P : Nat → σ → Prop) (g : σ → ρ)
    (hs : ∀ n a s, a < b → P a s → ∃ s', P (a + 1) s' ∧ F (n + 1) a s = F n (a + 1) s')
    (he : ∀ n s, P b s → F (n + 1) b s = some (g s)) (a n : Nat) (s : σ) (ha : a ≤ b) (hn : b - a < n) (hP : P a s) : ∃ s', P b s' ∧ F n a s = some (g s') := by
  obtain ⟨r, ⟨s', h1, h2⟩, h3⟩ := loopE F b P (fun r => ∃ s', P b s' ∧ r = g s') (fun n a s h1 h2 => Or.inl (hs n a s h1 h2)) (fun n s h => ⟨g s, ⟨s, h, rfl⟩, he n s h⟩) (b - a) n a s (by omega) hn hP
  exact ⟨s', h1, by rw [h3, h2]⟩
theorem idx_lt {K S x y : Nat} (hx : x < S) (hy : y < S) (hSK : S ≤ K) : K * y + x < K * S := by
  have h1 : K * (y + 1) ≤ K * S := Nat.mul_le_mul_left K hy
  rw [Nat.mul_succ] at h1
  omega
theorem idx_inj {K x y x' y' : Nat} (hx : x < K) (hx' : x' < K) (h : K * y + x = K * y' + x') : x = x' ∧ y = y' := by
  have h1 : (K * y + x) % K = x := by rw [Nat.mul_add_mod, Nat.mod_eq_of_lt hx]
  have h2 : (K * y' + x') % K = x' := by rw [Nat.mul_add_mod, Nat.mod_eq_of_lt hx']
  have e : x = x' := by rw [← h1, ← h2, h]
  subst e
  exact ⟨rfl, Nat.eq_of_mul_eq_mul_left (by omega) (Nat.add_right_cancel h)⟩
theorem mul_400 {a b : Nat} (ha : a ≤ 20) (hb : b ≤ 20) : a * b ≤ 400 := Nat.mul_le_mul ha hb
/-- the same grid in two strides -/
def RA (S : Nat) (f g : Nat → Int32) : Prop := ∀ x y, x < S → y < S → f (S * y + x) = g (20 * y + x)
def NN (S : Nat) (g : Nat → Int32) : Prop := ∀ x y, x < S → y < S → 0 ≤ g (20 * y + x)
/-- a block filled, in any stride -/
def Blk (K S x0 y0 x1 y1 : Nat) (v : Int32) (t t' : Nat → Int32) : Prop := ∀ x y, x < S → y < S → t' (K * y + x) = if x0 ≤ x ∧ x ≤ x1 ∧ y0 ≤ y ∧ y ≤ y1 then v else t (K * y + x)
theorem fill2 {K S x0 y0 x1 y1 N : Nat} {v : Int32} {t : Nat → Int32} (hK : S ≤ K) (hx1 : x1 < S) (hy1 : y1 < S) (hx : x0 ≤ x1) (hy : y0 ≤ y1) (hN : 1000 ≤ N) (hS : S ≤ 20)
    (Fr : Nat → Nat → Nat → (Nat → Int32) → Option (Int32 × (Nat → Int32))) (Fo : Nat → Nat → (Nat → Int32) → Option (Int32 × (Nat → Int32)))
    (r1 : ∀ y n a t, y ≤ y1 → a ≤ x1 → Fr y (n + 1) a t = Fr y n (a + 1) (upd t (K * y + a) v))
    (r2 : ∀ y n t, y ≤ y1 → Fr y (n + 1) (x1 + 1) t = some (nI (x1 + 1), t))
    (o1 : ∀ n y t, y ≤ y1 → Fo (n + 1) y t = (Fr y N x0 t).bind fun r => Fo n (y + 1) r.2)
    (o2 : ∀ n t, Fo (n + 1) (y1 + 1) t = some (nI (y1 + 1), t)) : ∃ t', Blk K S x0 y0 x1 y1 v t t' ∧ Fo N y0 t = some (nI (y1 + 1), t') := by
  have row : ∀ y t, y ≤ y1 → ∃ t', (∀ x y', x < S → y' < S → t' (K * y' + x) = if x0 ≤ x ∧ x ≤ x1 ∧ y' = y then v else t (K * y' + x)) ∧ Fr y N x0 t = some (nI (x1 + 1), t') := by
    intro y t hy'
    have step : ∀ (n a : Nat) (t' : Nat → Int32), a < x1 + 1 → (x0 ≤ a ∧ ∀ x y', x < S → y' < S → t' (K * y' + x) = if x0 ≤ x ∧ x < a ∧ y' = y then v else t (K * y' + x)) → ∃ s', (x0 ≤ a + 1 ∧ ∀ x y', x < S → y' < S → s' (K * y' + x) = if x0 ≤ x ∧ x < a + 1 ∧ y' = y then v else t (K * y' + x)) ∧ Fr y (n + 1) a t' = Fr y n (a + 1) s' := by
      intro n a t' ha hP
      refine ⟨_, ⟨by omega, fun x y' hx hy2 => ?_⟩, r1 y n a t' hy' (by omega)⟩
      by_cases h : K * y' + x = K * y + a
      · obtain ⟨e1, e2⟩ := idx_inj (by omega) (by omega) h
        rw [h, pk_us, if_pos (by omega)]
      · rw [pk_un h, hP.2 x y' hx hy2]
        by_cases hh : x0 ≤ x ∧ x < a ∧ y' = y
        · rw [if_pos hh, if_pos (by omega)]
        · rw [if_neg hh, if_neg]
          rintro ⟨a1, a2, rfl⟩
          have : x = a := by omega
          subst this
          exact h rfl
    obtain ⟨t', h1, h2⟩ := loopI (Fr y) (x1 + 1) _ (fun t => (nI (x1 + 1), t)) step (fun n s _ => r2 y n s hy') x0 N t (by omega) (by omega) ⟨by omega, fun x y' _ _ => by rw [if_neg (by omega)]⟩
    refine ⟨t', fun x y' hx hy2 => ?_, h2⟩
    rw [h1.2 x y' hx hy2]
    by_cases hh : x0 ≤ x ∧ x < x1 + 1 ∧ y' = y
    · rw [if_pos hh, if_pos (by omega)]
    · rw [if_neg hh, if_neg (by omega)]
  have step : ∀ (n y : Nat) (t' : Nat → Int32), y < y1 + 1 → (y0 ≤ y ∧ ∀ x y', x < S → y' < S → t' (K * y' + x) = if x0 ≤ x ∧ x ≤ x1 ∧ y0 ≤ y' ∧ y' < y then v else t (K * y' + x)) → ∃ s', (y0 ≤ y + 1 ∧ ∀ x y', x < S → y' < S → s' (K * y' + x) = if x0 ≤ x ∧ x ≤ x1 ∧ y0 ≤ y' ∧ y' < y + 1 then v else t (K * y' + x)) ∧ Fo (n + 1) y t' = Fo n (y + 1) s' := by
    intro n y t' hlt hP
    obtain ⟨s', h1, h2⟩ := row y t' (by omega)
    refine ⟨s', ⟨by omega, fun x y' hx hy2 => ?_⟩, by rw [o1 n y t' (by omega), h2]; rfl⟩
    rw [h1 x y' hx hy2, hP.2 x y' hx hy2]
    by_cases hh : x0 ≤ x ∧ x ≤ x1 ∧ y' = y
    · rw [if_pos hh, if_pos (by omega)]
    · rw [if_neg hh]
      by_cases h3 : x0 ≤ x ∧ x ≤ x1 ∧ y0 ≤ y' ∧ y' < y
      · rw [if_pos h3, if_pos (by omega)]
      · rw [if_neg h3, if_neg (by omega)]
  obtain ⟨t', h1, h2⟩ := loopI Fo (y1 + 1) _ (fun t => (nI (y1 + 1), t)) step (fun n s _ => o2 n s) y0 N t (by omega) (by omega) ⟨by omega, fun x y' _ _ => by rw [if_neg (by omega)]⟩
  refine ⟨t', fun x y' hx hy2 => ?_, h2⟩
  rw [h1.2 x y' hx hy2]
  by_cases hh : x0 ≤ x ∧ x ≤ x1 ∧ y0 ≤ y' ∧ y' < y1 + 1
  · rw [if_pos hh, if_pos (by omega)]
  · rw [if_neg hh, if_neg (by omega)]
