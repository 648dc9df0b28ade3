/-! unit(..), about(..), cell(..), check(..), blank(). -/
def TX (n : Nat) (xt mt : Nat → Int32) : Prop := n ≤ 240 ∧ ∀ j, j < n → ∃ c, 32 ≤ c ∧ c ≤ 126 ∧ xt j = nI c ∧ mt j = nI c
theorem pu_unit {N n : Nat} {a1 th : Int32} {xt mt : Nat → Int32} (hT : TX n xt mt) :
    ∃ k n' xt' mt', fX6_unit N a1 (nI n) 240 xt = some (k, nI n', xt') ∧ fX7_unit N a1 th (nI n) 240 mt = some (k, 0, nI n', mt') ∧ TX n' xt' mt' := by
  by_cases h0 : 240 ≤ n
  · refine ⟨0, n, xt, mt, ?_, ?_, hT⟩
    · rw [fX6_unit, fX4_append, qn240, if_pos (nI_le h0 (by have := hT.1; omega)), Option.bind_some, if_pos (Or.inl rfl)]
    · obtain ⟨r, hr⟩ : ∃ r, fX7_isIn N a1 32 126 = some r := by unfold fX7_isIn; split; exact ⟨_, rfl⟩; split <;> exact ⟨_, rfl⟩
      rw [fX7_unit, hr, Option.bind_some]
      by_cases e : r = 0
      · rw [if_pos e, JX7_unit_30, JX7_unit_31, if_pos (by decide), if_pos (Or.inl rfl)]
      · rw [if_neg e, qn240, if_pos (nI_le h0 (by have := hT.1; omega)), JX7_unit_30, JX7_unit_31, if_pos (by decide), if_pos (Or.inl rfl)]
  · by_cases h1 : a1 < 32
    · refine ⟨0, n, xt, mt, ?_, ?_, hT⟩
      · rw [fX6_unit, fX4_append, qn240, if_neg (nI_ge (by omega) (by omega)), if_pos h1, Option.bind_some, if_pos (Or.inl rfl)]
      · rw [fX7_unit, fX7_isIn, if_pos h1, Option.bind_some, if_pos (by decide), JX7_unit_30, JX7_unit_31, if_pos (by decide), if_pos (Or.inl rfl)]
    · by_cases h2 : a1 ≤ 126
      · have h10 : ¬ a1 < 0 := by
          rw [qn32, Int32.lt_iff_toInt_lt, nI_toInt (by omega)] at h1
          rw [Int32.lt_iff_toInt_lt, Int32.toInt_zero]
          omega
        obtain ⟨c, hc, rfl⟩ : ∃ c, c ≤ 126 ∧ a1 = nI c := nI_of2 (n := 126) rfl h10 h2
        have hc2 : 32 ≤ c := by
          rw [qn32, nI_ltI (by omega) (by omega)] at h1
          omega
        refine ⟨1, n + 1, upd xt n (nI c), upd mt n (nI c), ?_, ?_, by omega, fun j hj => ?_⟩
        · rw [fX6_unit, fX4_append, qn240, if_neg (nI_ge (by omega) (by omega)), if_neg h1, if_pos h2, if_neg (nI_in (by omega) (by omega)), Option.bind_some, if_pos (Or.inr rfl), nI_clamp (by omega), nI_1]
        · rw [fX7_unit, fX7_isIn, if_neg h1, if_neg (Int32.not_lt.mpr h2), Option.bind_some, if_neg (by decide), qn240, if_neg (nI_ge (by omega) (by omega)), JX7_unit_31, if_neg (by decide), if_neg (nI_in (by omega) (by omega)), if_pos (Or.inr rfl), nI_clamp (by omega), nI_1]
        · by_cases e : j = n
          · subst e
            exact ⟨c, hc2, hc, pk_us, pk_us⟩
          · rw [pk_un e, pk_un e]
            exact hT.2 j (by omega)
      · refine ⟨0, n, xt, mt, ?_, ?_, hT⟩
        · rw [fX6_unit, fX4_append, qn240, if_neg (nI_ge (by omega) (by omega)), if_neg h1, if_neg h2, Option.bind_some, if_pos (Or.inl rfl)]
        · rw [fX7_unit, fX7_isIn, if_neg h1, if_pos (Int32.not_le.mp h2), Option.bind_some, if_pos (by decide), JX7_unit_30, JX7_unit_31, if_pos (by decide), if_pos (Or.inl rfl)]
/-- a number 0 .. w, as both sides see it -/
theorem what_spec {N w : Nat} {x : Int32} (hw : w < 1000) : (∃ j, j ≤ w ∧ x = nI j ∧ fX6_demandWhat N x (nI w) = some (.inr ()) ∧ fX7_isIn N x 0 (nI w) = some 1) ∨ (fX6_demandWhat N x (nI w) = some (.inl 0) ∧ fX7_isIn N x 0 (nI w) = some 0) := by
  rcases pk_ix x (n := w + 1) (by omega) with h | h | ⟨j, hj, rfl⟩
  · exact Or.inr ⟨by rw [fX6_demandWhat, if_pos h], by rw [fX7_isIn, if_pos h]⟩
  · have h1 := h
    rw [Int32.le_iff_toInt_le, nI_toInt (by omega)] at h1
    have e1 : ¬ x < 0 := by rw [Int32.lt_iff_toInt_lt, Int32.toInt_zero]; omega
    have e3 : nI w < x := by rw [Int32.lt_iff_toInt_lt, nI_toInt (by omega)]; omega
    exact Or.inr ⟨by rw [fX6_demandWhat, if_neg e1, if_neg (Int32.not_le.mpr e3)], by rw [fX7_isIn, if_neg e1, if_pos e3]⟩
  · refine Or.inl ⟨j, by omega, rfl, ?_, ?_⟩
    · rw [fX6_demandWhat, if_neg (nI_pos (by omega)), if_pos (nI_le (by omega) (by omega))]
    · rw [fX7_isIn, if_neg (nI_pos (by omega)), if_neg (nI_nlt (by omega) (by omega))]
/-- the machine's words and the reference's six numbers -/
def MA (hr t e x y z c mh : Int32) (ab : Nat → Int32) : Prop := mh = hr ∧ (¬ hr = 0 → ab 0 = t ∧ ab 1 = e ∧ ab 2 = x ∧ ab 3 = y ∧ ab 4 = z ∧ ab 5 = c)
theorem pu_about {N : Nat} {a1 th hr t e x y z c mh : Int32} {ab : Nat → Int32} {out : Nat → Int64} (h : MA hr t e x y z c mh ab) :
    ∃ k out' v, fL_about N a1 1 out hr t e x y z c = some (k, out') ∧ fX7_about N a1 th mh 6 ab = some (v, k) ∧ (k = 0 → out' 0 = v.toInt64) := by
  obtain ⟨rfl, h⟩ := h
  have c0 : ¬ ((0 : Int32) < 0 ∨ 1 ≤ (0 : Int32).toNatClampNeg) := by decide
  rcases what_spec (N := N) (w := 5) (x := a1) (by omega) with ⟨j, hj, rfl, e1, e2⟩ | ⟨e1, e2⟩
  · by_cases h0 : mh = 0
    · refine ⟨2, out, 0, ?_, ?_, fun h => absurd h (by decide)⟩
      · rw [fL_about, fX6_about, qn5, e1, Option.bind_some, Sum.elim_inr, if_pos h0, Option.bind_some, Sum.elim_inl, if_neg (by decide), if_pos (by decide)]
      · rw [fX7_about, qn5, e2, Option.bind_some, if_neg (by decide), if_pos h0]
    · obtain ⟨b0, b1, b2, b3, b4, b5⟩ := h h0
      refine ⟨0, vp_updL out 0 (ab j).toInt64, ab j, ?_, ?_, fun _ => pk_uLs⟩
      · rw [fL_about, fX6_about, qn5, e1, Option.bind_some, Sum.elim_inr, if_neg h0]
        obtain rfl | rfl | rfl | rfl | rfl | rfl : j = 0 ∨ j = 1 ∨ j = 2 ∨ j = 3 ∨ j = 4 ∨ j = 5 := by omega
        · rw [if_pos (by decide), Option.bind_some, Sum.elim_inr, if_neg c0, b0]; rfl
        · rw [if_neg (by decide), if_pos (by decide), Option.bind_some, Sum.elim_inr, if_neg c0, b1]; rfl
        · rw [if_neg (by decide), if_neg (by decide), if_pos (by decide), Option.bind_some, Sum.elim_inr, if_neg c0, b2]; rfl
        · rw [if_neg (by decide), if_neg (by decide), if_neg (by decide), if_pos (by decide), Option.bind_some, Sum.elim_inr, if_neg c0, b3]; rfl
        · rw [if_neg (by decide), if_neg (by decide), if_neg (by decide), if_neg (by decide), if_pos (by decide), Option.bind_some, Sum.elim_inr, if_neg c0, b4]; rfl
        · rw [if_neg (by decide), if_neg (by decide), if_neg (by decide), if_neg (by decide), if_neg (by decide), Option.bind_some, Sum.elim_inr, if_neg c0, b5]; rfl
      · rw [fX7_about, qn5, e2, Option.bind_some, if_neg (by decide), if_neg h0, if_neg (nI_in (by omega) (by omega)), nI_clamp (by omega)]
  · refine ⟨1, out, 0, ?_, ?_, fun h => absurd h (by decide)⟩
    · rw [fL_about, fX6_about, qn5, e1, Option.bind_some, Sum.elim_inl, Option.bind_some, Sum.elim_inl, if_pos (by decide)]
    · rw [fX7_about, qn5, e2, Option.bind_some, if_pos (by decide)]
theorem pu_cell {S N : Nat} {a1 a2 a3 th : Int32} {xh mh xt mt xk mk : Nat → Int32} {out : Nat → Int64} (h2 : 2 ≤ S) (h20 : S ≤ 20) (hH : RA S xh mh) (hT : RA S xt mt) (hK : RA S xk mk) :
    ∃ k out' v, fL_cell2 N a1 a2 a3 1 out (nI S) (S * S) xk (S * S) xt (S * S) xh = some (k, out') ∧ fX7_cell N a1 a2 a3 th (nI S) 400 mh 400 mt 400 mk = some (v, k) ∧ (k = 0 → out' 0 = v.toInt64) := by
  have c0 : ¬ ((0 : Int32) < 0 ∨ 1 ≤ (0 : Int32).toNatClampNeg) := by decide
  rcases cell2 (N := N) (x := a1) (y := a2) h2 h20 with ⟨x, y, hx, hy, rfl, rfl, e1, f1⟩ | ⟨-, e1, f1⟩
  · have d1 : fX6_demandCell N (nI x) (nI y) (nI S) = some (.inr ()) := by rw [fX6_demandCell, e1, Option.bind_some, if_neg (by decide)]
    have hi := idx_lt (K := S) (S := S) (x := x) (y := y) (by omega) (by omega) (Nat.le_refl _)
    have hm := mul_400 h20 h20
    rcases what_spec (N := N) (w := 2) (x := a3) (by omega) with ⟨j, hj, rfl, e2, f2⟩ | ⟨e2, f2⟩
    · have hs : ∃ v, fX6_cell N (nI x) (nI y) (nI j) (nI S) (S * S) xk (S * S) xt (S * S) xh = some (.inr v) ∧ fX7_cell N (nI x) (nI y) (nI j) th (nI S) 400 mh 400 mt 400 mk = some (v, 0) := by
        obtain rfl | rfl | rfl : j = 0 ∨ j = 1 ∨ j = 2 := by omega
        · refine ⟨mh (20 * y + x), ?_, ?_⟩
          · rw [fX6_cell, d1, Option.bind_some, Sum.elim_inr, qn2, e2, Option.bind_some, Sum.elim_inr, fX0_placeOf, Option.bind_some, if_pos (by decide), pk_mul, nI_add, if_neg (nI_in hi (by omega)), nI_clamp (by omega), hH x y hx hy]
          · rw [fX7_cell, f1, Option.bind_some, if_neg (by decide), qn2, f2, Option.bind_some, if_neg (by decide), JX7_cell_24, if_pos (by decide), if_pos (by decide), qn20, pk_mul, nI_add, if_neg (nI_in (by omega) (by omega)), nI_clamp (by omega)]
        · refine ⟨mt (20 * y + x), ?_, ?_⟩
          · rw [fX6_cell, d1, Option.bind_some, Sum.elim_inr, qn2, e2, Option.bind_some, Sum.elim_inr, fX0_placeOf, Option.bind_some, if_neg (by decide), if_pos (by decide), pk_mul, nI_add, if_neg (nI_in hi (by omega)), nI_clamp (by omega), hT x y hx hy]
          · rw [fX7_cell, f1, Option.bind_some, if_neg (by decide), qn2, f2, Option.bind_some, if_neg (by decide), JX7_cell_24, if_pos (by decide), if_neg (by decide), if_pos (by decide), qn20, pk_mul, nI_add, if_neg (nI_in (by omega) (by omega)), nI_clamp (by omega)]
        · refine ⟨if mk (20 * y + x) = 0 then 0 else 1, ?_, ?_⟩
          · rw [fX6_cell, d1, Option.bind_some, Sum.elim_inr, qn2, e2, Option.bind_some, Sum.elim_inr, fX0_placeOf, Option.bind_some, if_neg (by decide), if_neg (by decide), pk_mul, nI_add, if_neg (nI_in hi (by omega)), nI_clamp (by omega), hK x y hx hy]
            split <;> rfl
          · rw [fX7_cell, f1, Option.bind_some, if_neg (by decide), qn2, f2, Option.bind_some, if_neg (by decide), JX7_cell_24, if_pos (by decide), if_neg (by decide), if_neg (by decide), qn20, pk_mul, nI_add, if_neg (nI_in (by omega) (by omega)), nI_clamp (by omega)]
            split <;> rfl
      obtain ⟨v, g1, g2⟩ := hs
      refine ⟨0, vp_updL out 0 v.toInt64, v, ?_, g2, fun _ => pk_uLs⟩
      rw [fL_cell2, g1, Option.bind_some, Sum.elim_inr, if_neg c0]; rfl
    · refine ⟨1, out, 0, ?_, ?_, fun h => absurd h (by decide)⟩
      · rw [fL_cell2, fX6_cell, d1, Option.bind_some, Sum.elim_inr, qn2, e2, Option.bind_some, Sum.elim_inl, Option.bind_some, Sum.elim_inl, if_pos (by decide)]
      · rw [fX7_cell, f1, Option.bind_some, if_neg (by decide), qn2, f2, Option.bind_some, if_pos (by decide), JX7_cell_23, JX7_cell_24, if_neg (by decide)]
  · refine ⟨1, out, 0, ?_, ?_, fun h => absurd h (by decide)⟩
    · rw [fL_cell2, fX6_cell, fX6_demandCell, e1, Option.bind_some, if_pos (by decide), Option.bind_some, Sum.elim_inl, Option.bind_some, Sum.elim_inl, if_pos (by decide)]
    · rw [fX7_cell, f1, Option.bind_some, if_pos (by decide), JX7_cell_23, JX7_cell_24, if_neg (by decide)]
/-- how many below n -/
def cnt (p : Nat → Bool) : Nat → Nat
  | 0 => 0
  | n + 1 => cnt p n + if p n then 1 else 0
theorem cnt_le (p : Nat → Bool) : ∀ n, cnt p n ≤ n := by
  intro n
  induction n with
  | zero => exact Nat.le_refl _
  | succ n ih => rw [cnt]; split <;> omega
def offB (up : Bool) (h t : Nat → Int32) (c : Nat) : Bool := if up then decide (¬ h c ≤ t c) else decide (¬ t c ≤ h c)
theorem offT (h t : Nat → Int32) (c : Nat) : offB true h t c = decide (¬ h c ≤ t c) := rfl
theorem offF (h t : Nat → Int32) (c : Nat) : offB false h t c = decide (¬ t c ≤ h c) := rfl
/-- the first below n, from a on -/
def FO (p : Nat → Bool) (a n : Nat) (v : Int32) : Prop := (v = -1 ∧ ∀ c, a ≤ c → c < n → p c = false) ∨ ∃ c, a ≤ c ∧ c < n ∧ v = nI c ∧ p c = true ∧ ∀ c', a ≤ c' → c' < c → p c' = false
theorem FO.uniq {p : Nat → Bool} {a n : Nat} {v w : Int32} (h : FO p a n v) (h' : FO p a n w) : v = w := by
  rcases h with ⟨rfl, h⟩ | ⟨c, h1, h2, rfl, h3, h4⟩
  · rcases h' with ⟨rfl, h'⟩ | ⟨c', k1, k2, rfl, k3, k4⟩
    · rfl
    · rw [h c' k1 k2] at k3; cases k3
  · rcases h' with ⟨rfl, h'⟩ | ⟨c', k1, k2, rfl, k3, k4⟩
    · rw [h' c h1 h2] at h3; cases h3
    · by_cases e : c < c'
      · rw [k4 c h1 e] at h3; cases h3
      · by_cases e' : c' < c
        · rw [h4 c' k1 e'] at k3; cases k3
        · rw [show c = c' by omega]
theorem RA.at {S c : Nat} {f g : Nat → Int32} (h : RA S f g) (h0 : 0 < S) (hc : c < S * S) : f c = g (20 * (c / S) + c % S) := by
  have h1 : c / S < S := Nat.div_lt_of_lt_mul hc
  have h2 : c % S < S := Nat.mod_lt _ h0
  rw [← h _ _ h2 h1, Nat.div_add_mod]
theorem at_lt {S c : Nat} (h0 : 0 < S) (h20 : S ≤ 20) (hc : c < S * S) : c / S < S ∧ c % S < S ∧ 20 * (c / S) + c % S < 400 := by
  have h1 : c / S < S := Nat.div_lt_of_lt_mul hc
  have h2 : c % S < S := Nat.mod_lt _ h0
  omega
theorem isOff_spec {N n c : Nat} {up : Bool} {h t : Nat → Int32} (hc : c < n) (hn : n ≤ 400) : fX0_isOff N (nI c) (if up then 1 else 0) n h n t = some (if offB up h t c then 1 else 0) := by
  cases up with
  | true =>
    rw [fX0_isOff, if_neg (by decide), if_neg (nI_in hc (by omega)), if_neg (nI_in hc (by omega)), nI_clamp (by omega), offT]
    by_cases e : h c ≤ t c
    · rw [if_pos e, if_neg (by simp [e])]
    · rw [if_neg e, if_pos (by simp [e])]
  | false =>
    rw [fX0_isOff, if_pos (by decide), if_neg (nI_in hc (by omega)), if_neg (nI_in hc (by omega)), nI_clamp (by omega), offF]
    by_cases e : t c ≤ h c
    · rw [if_pos e, if_neg (by simp [e])]
    · rw [if_neg e, if_pos (by simp [e])]
theorem countOff_spec {N n : Nat} {up : Bool} {h t : Nat → Int32} (hN : 1000 ≤ N) (hn : n ≤ 400) : fX0_countOff N (if up then 1 else 0) (nI n) n h n t = some (nI (cnt (offB up h t) n)) := by
  have step : ∀ (m a : Nat) (k : Nat), a < n → k = cnt (offB up h t) a → ∃ k', k' = cnt (offB up h t) (a + 1) ∧ LX0_countOff_4 (nI n) N (if up then 1 else 0) n h n t (m + 1) (nI k) (nI a) = LX0_countOff_4 (nI n) N (if up then 1 else 0) n h n t m (nI k') (nI (a + 1)) := by
    intro m a k ha hk
    refine ⟨_, rfl, ?_⟩
    rw [LX0_countOff_4, if_neg (nI_ge ha (by omega)), isOff_spec ha hn, Option.bind_some, cnt, hk]
    by_cases e : offB up h t a = true
    · rw [if_pos e, if_pos e, if_neg (by decide), nI_1, nI_1]
    · rw [if_neg e, if_neg e, if_pos (by decide), nI_1]; rfl
  obtain ⟨k, h1, h2⟩ := loopI (fun m a k => LX0_countOff_4 (nI n) N (if up then 1 else 0) n h n t m (nI k) (nI a)) n _ (fun k => (nI k, nI n)) step (fun m k _ => by show LX0_countOff_4 (nI n) N (if up then 1 else 0) n h n t (m + 1) (nI k) (nI n) = _; rw [LX0_countOff_4, if_pos (nI_le (Nat.le_refl _) (by omega))]) 0 N 0 (by omega) (by omega) rfl
  rw [fX0_countOff, show (LX0_countOff_4 (nI n) N (if up then 1 else 0) n h n t N 0 0) = _ from h2, Option.bind_some, h1]
theorem firstOff_spec {N n : Nat} {up : Bool} {h t : Nat → Int32} (hN : 1000 ≤ N) (hn : n ≤ 400) : ∃ v, fX0_firstOff N (if up then 1 else 0) (nI n) n h n t = some v ∧ FO (offB up h t) 0 n v := by
  obtain ⟨r, h1, h2⟩ := loopE (fun m a (_ : Unit) => LX0_firstOff_2 (nI n) N (if up then 1 else 0) n h n t m (nI a)) n (fun a _ => ∀ c, c < a → offB up h t c = false) (FO (offB up h t) 0 n) (fun m a _ ha hP => by
      by_cases e : offB up h t a = true
      · refine Or.inr ⟨nI a, Or.inr ⟨a, by omega, ha, rfl, e, fun c _ hc => hP c hc⟩, ?_⟩
        show LX0_firstOff_2 (nI n) N (if up then 1 else 0) n h n t (m + 1) (nI a) = _
        rw [LX0_firstOff_2, if_neg (nI_ge ha (by omega)), isOff_spec ha hn, Option.bind_some, if_pos e, if_neg (by decide)]
      · refine Or.inl ⟨(), fun c hc => ?_, ?_⟩
        · by_cases e' : c = a
          · subst e'; simpa using e
          · exact hP c (by omega)
        · show LX0_firstOff_2 (nI n) N (if up then 1 else 0) n h n t (m + 1) (nI a) = _
          rw [LX0_firstOff_2, if_neg (nI_ge ha (by omega)), isOff_spec ha hn, Option.bind_some, if_neg e, if_pos (by decide), nI_1])
    (fun m _ hP => ⟨-1, Or.inl ⟨rfl, fun c _ hc => hP c hc⟩, by show LX0_firstOff_2 (nI n) N (if up then 1 else 0) n h n t (m + 1) (nI n) = _; rw [LX0_firstOff_2, if_pos (nI_le (Nat.le_refl _) (by omega))]⟩) n N 0 () (by omega) (by omega) (fun c hc => absurd hc (by omega))
  exact ⟨r, h2, h1⟩
theorem mcheck_spec {S N j : Nat} {xh mh xt mt : Nat → Int32} (h2 : 2 ≤ S) (h20 : S ≤ 20) (hN : 1000 ≤ N) (hj : j ≤ 3) (hH : RA S xh mh) (hT : RA S xt mt) :
    ∃ v, LX7_check_35 0 (nI S) (nI j) 400 400 mh mt N 0 (-1) ((nI S * nI S) - 1) = some (nI (cnt (offB (j % 2 == 0) xh xt) (S * S)), v, nI 0 + (-1)) ∧ FO (offB (j % 2 == 0) xh xt) 0 (S * S) v := by
  have hm := mul_400 h20 h20
  have hs0 : 0 < S * S := Nat.mul_pos (by omega) (by omega)
  have step : ∀ (m i : Nat) (s : Nat × Int32), i < S * S → (s.1 + cnt (offB (j % 2 == 0) xh xt) (S * S - i) = cnt (offB (j % 2 == 0) xh xt) (S * S) ∧ FO (offB (j % 2 == 0) xh xt) (S * S - i) (S * S) s.2) →
      ∃ s' : Nat × Int32, (s'.1 + cnt (offB (j % 2 == 0) xh xt) (S * S - (i + 1)) = cnt (offB (j % 2 == 0) xh xt) (S * S) ∧ FO (offB (j % 2 == 0) xh xt) (S * S - (i + 1)) (S * S) s'.2) ∧ LX7_check_35 0 (nI S) (nI j) 400 400 mh mt (m + 1) (nI s.1) s.2 (nI (S * S - i) + (-1)) = LX7_check_35 0 (nI S) (nI j) 400 400 mh mt m (nI s'.1) s'.2 (nI (S * S - (i + 1)) + (-1)) := by
    intro m i ⟨k, v⟩ hi ⟨hk, hv⟩
    obtain ⟨c, hc⟩ : ∃ c, S * S - i = c + 1 := ⟨S * S - i - 1, by omega⟩
    have hc1 : S * S - (i + 1) = c := by omega
    have hcl : c < S * S := by omega
    rw [hc] at hk hv
    rw [hc, hc1]
    obtain ⟨a1, a2, a3⟩ := at_lt (by omega) h20 hcl
    have hsN : ¬ nI S = 0 := nI_ne0 (by omega) (by omega)
    have key : LX7_check_35 0 (nI S) (nI j) 400 400 mh mt (m + 1) (nI k) v (nI (c + 1) + (-1)) = JX7_check_120 (fun b0 b1 b2 => LX7_check_35 0 (nI S) (nI j) 400 400 mh mt m b0 b1 b2) (nI k) v (nI c) (if offB (j % 2 == 0) xh xt c then 1 else 0) := by
      rw [pk_m1, LX7_check_35, if_neg (nI_pos (by omega)), if_pos (by decide), if_neg hsN, if_neg hsN, if_neg (by decide), qn2, pk_rem (by omega) (by omega) (by omega), pk_div (by omega) (by omega) (by omega), show nI c - nI (c / S) * nI S = nI (c % S) by rw [← pk_div (by omega) (by omega) (by omega), pk_rem (by omega) (by omega) (by omega)], qn20, pk_mul, nI_add, nI_clamp (by omega)]
      obtain h0 | h1 : j % 2 = 0 ∨ j % 2 = 1 := by omega
      · rw [h0, if_pos (by decide), if_neg (nI_in' a3), if_neg (nI_in' a3), show ((0 : Nat) == 0) = true from rfl, offT, hH.at (by omega) hcl, hT.at (by omega) hcl]
        by_cases e : mh (20 * (c / S) + c % S) ≤ mt (20 * (c / S) + c % S)
        · rw [if_pos e, if_neg (by simp [e])]
        · rw [if_neg e, if_pos (by simp [e])]
      · rw [h1, if_neg (by decide), if_neg (nI_in' a3), if_neg (nI_in' a3), show ((1 : Nat) == 0) = false from rfl, offF, hH.at (by omega) hcl, hT.at (by omega) hcl]
        by_cases e : mt (20 * (c / S) + c % S) ≤ mh (20 * (c / S) + c % S)
        · rw [if_pos e, if_neg (by simp [e])]
        · rw [if_neg e, if_pos (by simp [e])]
    rw [key]
    rw [cnt] at hk
    by_cases e : offB (j % 2 == 0) xh xt c = true
    · rw [if_pos e] at hk
      refine ⟨(k + 1, nI c), ⟨by show k + 1 + _ = _; omega, Or.inr ⟨c, by omega, hcl, rfl, e, fun c' h h' => absurd h' (by omega)⟩⟩, ?_⟩
      rw [if_pos e, JX7_check_120, if_neg (by decide), if_neg (by decide), nI_1]
    · rw [if_neg e] at hk
      refine ⟨(k, v), ⟨by show k + _ = _; omega, ?_⟩, ?_⟩
      · rcases hv with ⟨rfl, h⟩ | ⟨c', b1, b2, b3, b4, b5⟩
        · refine Or.inl ⟨rfl, fun c' h1 h2 => ?_⟩
          by_cases e' : c' = c
          · subst e'; simpa using e
          · exact h c' (by omega) h2
        · refine Or.inr ⟨c', by omega, b2, b3, b4, fun c'' h1 h2 => ?_⟩
          by_cases e' : c'' = c
          · subst e'; simpa using e
          · exact b5 c'' (by omega) h2
      · rw [if_neg e, JX7_check_120, if_pos (by decide), if_pos (by decide)]
  obtain ⟨⟨k, v⟩, ⟨h3, h4⟩, h5⟩ := loopI (fun m i (s : Nat × Int32) => LX7_check_35 0 (nI S) (nI j) 400 400 mh mt m (nI s.1) s.2 (nI (S * S - i) + (-1))) (S * S) _ (fun s => (nI s.1, s.2, nI 0 + (-1))) step (fun m s _ => by
      show LX7_check_35 0 (nI S) (nI j) 400 400 mh mt (m + 1) (nI s.1) s.2 (nI (S * S - S * S) + (-1)) = _
      rw [Nat.sub_self, LX7_check_35, if_pos (by decide)]) 0 N (0, -1) (by omega) (by omega) ⟨by simp, Or.inl ⟨rfl, fun c h h' => absurd h' (by omega)⟩⟩
  refine ⟨v, ?_, by simpa using h4⟩
  have e : (nI S * nI S) - 1 = nI (S * S - 0) + (-1) := by
    rw [pk_mul, show nI (S * S) - 1 = nI (S * S - 1) from pk_sub (b := 1) (by omega), Nat.sub_zero]
    rw [show nI (S * S) = nI ((S * S - 1) + 1) by rw [Nat.sub_add_cancel (by omega)], pk_m1]
  have hk : k = cnt (offB (j % 2 == 0) xh xt) (S * S) := by simpa [cnt] using h3
  rw [e, ← hk]
  exact h5
theorem pu_check {S N : Nat} {a1 th : Int32} {xh mh xt mt : Nat → Int32} {out : Nat → Int64} (h2 : 2 ≤ S) (h20 : S ≤ 20) (hN : 1000 ≤ N) (hH : RA S xh mh) (hT : RA S xt mt) :
    ∃ k out' v, fL_check N a1 1 out (nI (S * S)) (S * S) xh (S * S) xt = some (k, out') ∧ fX7_check N a1 th (nI S) 400 mh 400 mt = some (v, k) ∧ (k = 0 → out' 0 = v.toInt64) := by
  have c0 : ¬ ((0 : Int32) < 0 ∨ 1 ≤ (0 : Int32).toNatClampNeg) := by decide
  have hm := mul_400 h20 h20
  rcases what_spec (N := N) (w := 3) (x := a1) (by omega) with ⟨j, hj, rfl, e1, f1⟩ | ⟨e1, f1⟩
  · obtain ⟨v, g1, g2⟩ := mcheck_spec (N := N) h2 h20 hN hj hH hT
    have hs : ∃ w, fX6_check N (nI j) (nI (S * S)) (S * S) xh (S * S) xt = some (.inr w) ∧ JX7_check_153 0 (nI j) (nI (cnt (offB (j % 2 == 0) xh xt) (S * S))) v = some (w, 0) := by
      obtain rfl | rfl | rfl | rfl : j = 0 ∨ j = 1 ∨ j = 2 ∨ j = 3 := by omega
      · refine ⟨_, ?_, by rw [JX7_check_153, if_pos (by decide), if_neg (by decide)]⟩
        have := countOff_spec (up := true) (h := xh) (t := xt) hN hm
        rw [if_pos (by decide)] at this
        rw [fX6_check, qn3, e1, Option.bind_some, Sum.elim_inr, if_pos (by decide), this]; rfl
      · refine ⟨_, ?_, by rw [JX7_check_153, if_pos (by decide), if_neg (by decide)]⟩
        have := countOff_spec (up := false) (h := xh) (t := xt) hN hm
        rw [if_neg (by decide)] at this
        rw [fX6_check, qn3, e1, Option.bind_some, Sum.elim_inr, if_neg (by decide), if_pos (by decide), this]; rfl
      · refine ⟨v, ?_, by rw [JX7_check_153, if_pos (by decide), if_pos (by decide)]⟩
        obtain ⟨w, b1, b2⟩ := firstOff_spec (up := true) (h := xh) (t := xt) hN hm
        rw [if_pos (by decide)] at b1
        rw [fX6_check, qn3, e1, Option.bind_some, Sum.elim_inr, if_neg (by decide), if_neg (by decide), if_pos (by decide), b1, Option.bind_some, b2.uniq g2]
      · refine ⟨v, ?_, by rw [JX7_check_153, if_pos (by decide), if_pos (by decide)]⟩
        obtain ⟨w, b1, b2⟩ := firstOff_spec (up := false) (h := xh) (t := xt) hN hm
        rw [if_neg (by decide)] at b1
        rw [fX6_check, qn3, e1, Option.bind_some, Sum.elim_inr, if_neg (by decide), if_neg (by decide), if_neg (by decide), b1, Option.bind_some, b2.uniq g2]
    obtain ⟨w, k1, k2⟩ := hs
    refine ⟨0, vp_updL out 0 w.toInt64, w, ?_, ?_, fun _ => pk_uLs⟩
    · rw [fL_check, k1, Option.bind_some, Sum.elim_inr, if_neg c0]; rfl
    · rw [fX7_check, qn3, f1, Option.bind_some, if_neg (by decide), JX7_check_15, g1, Option.bind_some, k2]
  · refine ⟨1, out, 0, ?_, ?_, fun h => absurd h (by decide)⟩
    · rw [fL_check, fX6_check, qn3, e1, Option.bind_some, Sum.elim_inl, Option.bind_some, Sum.elim_inl, if_pos (by decide)]
    · obtain ⟨N', rfl⟩ : ∃ N', N = N' + 1 := ⟨N - 1, by omega⟩
      have hp : ¬ nI (S * S) - 1 < 0 := by rw [show nI (S * S) - 1 = nI (S * S - 1) from pk_sub (b := 1) (Nat.mul_pos (by omega) (by omega))]; exact nI_pos (by omega)
      rw [fX7_check, qn3, f1, Option.bind_some, if_pos (by decide), JX7_check_15, pk_mul, LX7_check_35, if_neg hp, if_neg (by decide), Option.bind_some, JX7_check_153, if_neg (by decide)]
theorem pu_blank {S N : Nat} {th : Int32} {xh mh : Nat → Int32} (h2 : 2 ≤ S) (h20 : S ≤ 20) (hN : 1000 ≤ N) :
    ∃ xh' mh', fX6_blank N (nI (S * S)) (S * S) xh = some xh' ∧ fX7_blank N th 400 mh = some (0, mh') ∧ (∀ c, c < S * S → xh' c = 100) ∧ (∀ c, c < 400 → mh' c = 100) := by
  have hm := mul_400 h20 h20
  obtain ⟨f, h1, h3⟩ := loopI (fun m a f => LX0_fillUp_2 (nI (S * S)) (S * S) m (nI a) f) (S * S) (fun a f => ∀ c, c < a → f c = 100) (fun f => (nI (S * S), f)) (fun m a f ha hP => by
    refine ⟨upd f a 100, fun c hc => ?_, ?_⟩
    · by_cases e : c = a
      · subst e; exact pk_us
      · rw [pk_un e]; exact hP c (by omega)
    · show LX0_fillUp_2 (nI (S * S)) (S * S) (m + 1) (nI a) f = _
      rw [LX0_fillUp_2, if_neg (nI_ge ha (by omega)), if_neg (nI_in ha (by omega)), nI_clamp (by omega), nI_1]) (fun m f _ => by show LX0_fillUp_2 (nI (S * S)) (S * S) (m + 1) (nI (S * S)) f = _; rw [LX0_fillUp_2, if_pos (nI_le (Nat.le_refl _) (by omega))]) 0 N xh (by omega) (by omega) (fun c hc => absurd hc (by omega))
  obtain ⟨g, h4, h5⟩ := loopI (fun m a f => LX7_blank_7 400 m (nI a) f) 400 (fun a f => ∀ c, c < a → f c = 100) (fun f => (nI 400, f)) (fun m a f ha hP => by
    refine ⟨upd f a 100, fun c hc => ?_, ?_⟩
    · by_cases e : c = a
      · subst e; exact pk_us
      · rw [pk_un e]; exact hP c (by omega)
    · show LX7_blank_7 400 (m + 1) (nI a) f = _
      rw [LX7_blank_7, qn400, if_neg (nI_ge ha (by omega)), if_neg (nI_in ha (by omega)), nI_clamp (by omega), nI_1]) (fun m f _ => by show LX7_blank_7 400 (m + 1) (nI 400) f = _; rw [LX7_blank_7, qn400, if_pos (nI_le (Nat.le_refl _) (by omega))]) 0 N mh (by omega) (by omega) (fun c hc => absurd hc (by omega))
  refine ⟨f, g, ?_, ?_, h1, h4⟩
  · rw [fX6_blank, fX0_fillUp, show (0 : Int32) = nI 0 from rfl, h3]; rfl
  · rw [fX7_blank, show LX7_blank_7 400 N 0 mh = _ from h5]; rfl
