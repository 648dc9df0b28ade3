/-! Counting, lists in the order of the cells, and the disc of a tool. -/
theorem cnt_mono {p : Nat → Bool} {a b : Nat} (h : a ≤ b) : cnt p a ≤ cnt p b := by
  induction b with
  | zero => rw [show a = 0 by omega]; exact Nat.le_refl _
  | succ b ih =>
    by_cases e : a = b + 1
    · rw [e]; exact Nat.le_refl _
    · rw [cnt]
      have := ih (by omega)
      omega
theorem cnt_t {p : Nat → Bool} {c : Nat} (h : p c = true) : cnt p (c + 1) = cnt p c + 1 := by rw [cnt, if_pos h]
theorem cnt_f {p : Nat → Bool} {c : Nat} (h : p c = false) : cnt p (c + 1) = cnt p c := by rw [cnt, h]; rfl
theorem cnt_lt {p : Nat → Bool} {c n : Nat} (hc : c < n) (h : p c = true) : cnt p c < cnt p n := by
  have h1 := cnt_mono (p := p) (show c + 1 ≤ n by omega)
  rw [cnt_t h] at h1
  omega
theorem cnt_gap {p : Nat → Bool} {a b : Nat} (h : a ≤ b) (hp : ∀ c, a ≤ c → c < b → p c = false) : cnt p b = cnt p a := by
  induction b with
  | zero => rw [show a = 0 by omega]
  | succ b ih =>
    by_cases e : a = b + 1
    · rw [e]
    · rw [cnt_f (hp b (by omega) (by omega))]
      exact ih (by omega) (fun c h1 h2 => hp c h1 (by omega))
theorem cnt_zero {p : Nat → Bool} {n : Nat} (h : ∀ c, c < n → p c = false) : cnt p n = 0 := cnt_gap (a := 0) (Nat.zero_le _) (fun c _ hc => h c hc)
theorem cnt_congr {p q : Nat → Bool} {n : Nat} (h : ∀ c, c < n → p c = q c) : cnt p n = cnt q n := by
  induction n with
  | zero => rfl
  | succ n ih => rw [cnt, cnt, ih (fun c hc => h c (by omega)), h n (by omega)]
theorem cnt_add (p : Nat → Bool) (a b : Nat) : cnt p (a + b) = cnt p a + cnt (fun x => p (a + x)) b := by
  induction b with
  | zero => rfl
  | succ b ih => rw [← Nat.add_assoc, cnt, cnt, ih, Nat.add_assoc]
theorem cnt_stride {S : Nat} {p q : Nat → Bool} (h20 : S ≤ 20) (h : ∀ x y, x < S → y < S → q (20 * y + x) = p (S * y + x)) (hq : ∀ c, c < 400 → (S ≤ c % 20 ∨ S ≤ c / 20) → q c = false) : cnt q 400 = cnt p (S * S) := by
  have rows : ∀ y, y ≤ S → cnt q (20 * y) = cnt p (S * y) := by
    intro y
    induction y with
    | zero => intro _; rfl
    | succ y ih =>
      intro hy
      rw [Nat.mul_succ, Nat.mul_succ, cnt_add, cnt_add, ih (by omega)]
      congr 1
      rw [cnt_gap (p := fun x => q (20 * y + x)) h20 (fun c h1 h2 => hq _ (by omega) (Or.inl (by omega)))]
      exact cnt_congr (fun c hc => h c y hc (by omega))
  rw [← rows S (Nat.le_refl _)]
  exact cnt_gap (by omega) (fun c h1 h2 => hq c h2 (Or.inr (by omega)))
/-- d lists the cells below n with p, in their order -/
def Lst (p : Nat → Bool) (n : Nat) (d : Nat → Int32) : Prop := ∀ c, c < n → p c = true → d (cnt p c) = nI c
theorem Lst.gap {p : Nat → Bool} {a b : Nat} {d : Nat → Int32} (h : Lst p a d) (hp : ∀ c, a ≤ c → c < b → p c = false) : Lst p b d := fun c hc hpc => by
  by_cases e : c < a
  · exact h c e hpc
  · rw [hp c (by omega) hc] at hpc; cases hpc
theorem Lst.add {p : Nat → Bool} {a : Nat} {d : Nat → Int32} (h : Lst p a d) (hp : p a = true) : Lst p (a + 1) (upd d (cnt p a) (nI a)) := fun c hc hpc => by
  by_cases e : c = a
  · subst e; exact pk_us
  · rw [pk_un (by have := cnt_lt (p := p) (show c < a by omega) hpc; omega)]
    exact h c (by omega) hpc
/-- a walk along such a list is a walk over the cells -/
theorem lstE {σ ρ : Type} (F : Nat → Nat → σ → Option ρ) (p : Nat → Bool) (b : Nat) (P : Nat → σ → Prop) (Q : ρ → Prop)
    (hs : ∀ n c s, c < b → p c = true → P c s → (∃ s', P (c + 1) s' ∧ F (n + 1) (cnt p c) s = F n (cnt p c + 1) s') ∨ ∃ r, Q r ∧ F (n + 1) (cnt p c) s = some r)
    (hn : ∀ c s, c < b → p c = false → P c s → P (c + 1) s)
    (he : ∀ n s, P b s → ∃ r, Q r ∧ F (n + 1) (cnt p b) s = some r) : ∀ (d n c : Nat) (s : σ), c + d = b → d < n → P c s → ∃ r, Q r ∧ F n (cnt p c) s = some r := by
  intro d
  induction d with
  | zero =>
    intro n a s e hn hP
    obtain ⟨n, rfl⟩ : ∃ k, n = k + 1 := ⟨n - 1, by omega⟩
    have : a = b := by omega
    subst this
    exact he n s hP
  | succ d ih =>
    intro n a s e hn' hP
    by_cases hp : p a = true
    · obtain ⟨n, rfl⟩ : ∃ k, n = k + 1 := ⟨n - 1, by omega⟩
      rcases hs n a s (by omega) hp hP with ⟨s', h1, h2⟩ | h
      · rw [h2, ← cnt_t hp]; exact ih n (a + 1) s' (by omega) (by omega) h1
      · exact h
    · have hp' : p a = false := by simpa using hp
      rw [← cnt_f hp']
      exact ih n (a + 1) s (by omega) (by omega) (hn a s (by omega) hp' hP)
theorem lstI {σ ρ : Type} (F : Nat → Nat → σ → Option ρ) (p : Nat → Bool) (b : Nat) (P : Nat → σ → Prop) (g : σ → ρ)
    (hs : ∀ n c s, c < b → p c = true → P c s → ∃ s', P (c + 1) s' ∧ F (n + 1) (cnt p c) s = F n (cnt p c + 1) s')
    (hn : ∀ c s, c < b → p c = false → P c s → P (c + 1) s)
    (he : ∀ n s, P b s → F (n + 1) (cnt p b) s = some (g s)) (n : Nat) (s : σ) (hb : b < n) (hP : P 0 s) : ∃ s', P b s' ∧ F n 0 s = some (g s') := by
  obtain ⟨r, ⟨s', h1, h2⟩, h3⟩ := lstE F p b P (fun r => ∃ s', P b s' ∧ r = g s') (fun n a s h1 h2 h3 => Or.inl (hs n a s h1 h2 h3)) hn (fun n s h => ⟨g s, ⟨s, h, rfl⟩, he n s h⟩) b n 0 s (by omega) hb hP
  exact ⟨s', h1, by rw [← h2]; exact h3⟩
/-- the distance of two numbers -/
def nd (a b : Nat) : Nat := (a - b) + (b - a)
theorem nd_sq {a b : Nat} : (nI a - nI b) * (nI a - nI b) = nI (nd a b * nd a b) := by
  by_cases h : b ≤ a
  · rw [pk_sub h, pk_mul, nd, show b - a = 0 by omega, Nat.add_zero]
  · rw [← Int32.neg_sub, Int32.neg_mul_neg, pk_sub (by omega), pk_mul, nd, show a - b = 0 by omega, Nat.zero_add]
theorem nd_abs {a b : Nat} (ha : a < 1000) (hb : b < 1000) : (if 0 ≤ nI a - nI b then nI a - nI b else 0 - (nI a - nI b)) = nI (nd a b) := by
  by_cases h : b ≤ a
  · rw [pk_sub h, if_pos (nI_pos' (by omega)), nd, show b - a = 0 by omega, Nat.add_zero]
  · rw [if_neg (Int32.not_le.mpr (pk_sneg (by omega) (by omega))), Int32.zero_sub, Int32.neg_sub, pk_sub (by omega), nd, show a - b = 0 by omega, Nat.zero_add]
theorem max0 {a b : Nat} (ha : a < 1000) (hb : b < 1000) : (if 0 < nI a - nI b then nI a - nI b else 0) = nI (a - b) := by
  by_cases h : b ≤ a
  · rw [pk_sub h]
    by_cases e : a - b = 0
    · rw [e]; rfl
    · rw [if_pos (show (0 : Int32) < nI (a - b) from nI_lt (a := 0) (by omega) (by omega))]
  · rw [if_neg (fun hh => absurd (pk_sneg (a := a) (b := b) (by omega) (by omega)) (Int32.not_lt.mpr (Int32.le_of_lt hh))), show a - b = 0 by omega]; rfl
theorem min1 {a b S : Nat} (hS : 1 ≤ S) (h20 : S ≤ 20) (ha : a < 1000) (hb : b < 1000) : (if nI a + nI b < nI S - 1 then nI a + nI b else nI S - 1) = nI (if a + b < S - 1 then a + b else S - 1) := by
  rw [show nI S - 1 = nI (S - 1) from pk_sub (b := 1) hS, nI_add]
  by_cases h : a + b < S - 1
  · rw [if_pos (nI_lt h (by omega)), if_pos h]
  · rw [if_neg (nI_nlt (by omega) (by omega)), if_neg h]
/-- is the cell x, y under a tool of radius r at cx, cy? -/
def dsc (r cx cy x y : Nat) : Bool := decide (nd x cx * nd x cx + nd y cy * nd y cy ≤ r * r)
def pX (S r cx cy : Nat) (c : Nat) : Bool := dsc r cx cy (c % S) (c / S)
def pM (S r cx cy : Nat) (c : Nat) : Bool := decide (c % 20 < S) && (decide (c / 20 < S) && dsc r cx cy (c % 20) (c / 20))
theorem pX_at {S r cx cy x y : Nat} (hx : x < S) : pX S r cx cy (S * y + x) = dsc r cx cy x y := by
  rw [pX, Nat.mul_add_mod, Nat.mod_eq_of_lt hx, Nat.mul_add_div (by omega), Nat.div_eq_of_lt hx, Nat.add_zero]
theorem pM_at {S r cx cy x y : Nat} (hx : x < S) (hy : y < S) (h20 : S ≤ 20) : pM S r cx cy (20 * y + x) = dsc r cx cy x y := by
  rw [pM, show (20 * y + x) % 20 = x by omega, show (20 * y + x) / 20 = y by omega, decide_eq_true hx, decide_eq_true hy]
  rfl
theorem pM_out {S r cx cy c : Nat} (h : S ≤ c % 20 ∨ S ≤ c / 20) : pM S r cx cy c = false := by
  rcases h with h | h
  · rw [pM, decide_eq_false (by omega)]; rfl
  · rw [pM, decide_eq_false (p := c / 20 < S) (by omega)]; simp
theorem pM_in {S r cx cy c : Nat} (h : pM S r cx cy c = true) : c % 20 < S ∧ c / 20 < S ∧ dsc r cx cy (c % 20) (c / 20) = true := by
  rw [pM, Bool.and_eq_true, Bool.and_eq_true] at h
  exact ⟨of_decide_eq_true h.1, of_decide_eq_true h.2.1, h.2.2⟩
theorem inDisc_spec {S N r t cx cy c : Nat} {mr : Nat → Int32} (h2 : 2 ≤ S) (h20 : S ≤ 20) (ht : t < 4) (hr : mr t = nI r) (hr6 : r ≤ 6) (hx : cx < S) (hy : cy < S) (hc : c < 400) :
    fX7_isInDisc N (nI t) (nI cx) (nI cy) (nI c) (nI S) 4 mr = some (if pM S r cx cy c then 1 else 0) := by
  have m1 : nd (c % 20) cx * nd (c % 20) cx ≤ 400 := Nat.mul_le_mul (show nd (c % 20) cx ≤ 20 by rw [nd]; omega) (show nd (c % 20) cx ≤ 20 by rw [nd]; omega)
  have m2 : nd (c / 20) cy * nd (c / 20) cy ≤ 400 := Nat.mul_le_mul (show nd (c / 20) cy ≤ 20 by rw [nd]; omega) (show nd (c / 20) cy ≤ 20 by rw [nd]; omega)
  have m3 := sq_le hr6
  have e1 : nI c - nI c / 20 * 20 = nI (c % 20) := pk_rem (d := 20) (by omega) (by omega) (by omega)
  have e2 : nI c / 20 = nI (c / 20) := pk_div (d := 20) (by omega) (by omega) (by omega)
  rw [fX7_isInDisc, if_neg (by decide), if_neg (by decide), if_neg (nI_in ht (by omega)), nI_clamp (by omega), hr, e1, e2, fX7_isNear, nd_sq, nd_sq, pk_mul, nI_add]
  by_cases h : r * r < nd (c % 20) cx * nd (c % 20) cx + nd (c / 20) cy * nd (c / 20) cy
  · rw [if_pos (nI_lt h (by omega)), Option.bind_some, if_pos rfl, if_neg]
    intro hh
    have := of_decide_eq_true (pM_in hh).2.2
    omega
  · rw [if_neg (nI_nlt (by omega) (by omega)), Option.bind_some, if_neg (by decide), if_neg (by decide), if_neg (by decide)]
    have hd : dsc r cx cy (c % 20) (c / 20) = true := decide_eq_true (by omega)
    rcases cell2 (N := N) (x := nI (c % 20)) (y := nI (c / 20)) h2 h20 with ⟨i, j, hi, hj, e3, e4, -, f1⟩ | ⟨hno, -, f1⟩
    · rw [f1, Option.bind_some, if_neg (by decide)]
      rw [nI_eq (by omega) (by omega)] at e3 e4
      rw [pM, hd, decide_eq_true (by omega), decide_eq_true (by omega)]
      rfl
    · rw [f1, Option.bind_some, if_pos rfl, if_neg]
      intro hh
      exact hno ⟨c % 20, c / 20, (pM_in hh).1, (pM_in hh).2.1, rfl, rfl⟩
theorem row_lt {S y c : Nat} (h : c < S * y) (hS : 0 < S) : c / S < y := Nat.div_lt_of_lt_mul h
theorem row_ge {S y c : Nat} (h : S * y ≤ c) (hS : 0 < S) : y ≤ c / S := (Nat.le_div_iff_mul_le hS).mpr (by rw [Nat.mul_comm]; exact h)
theorem layDisc_spec {S N r cx cy : Nat} {hw d : Nat → Int32} {o : Int32} (h2 : 2 ≤ S) (h20 : S ≤ 20) (hN : 1000 ≤ N) (hr6 : r ≤ 6) (hR : ToolR r hw) (hx : cx < S) (hy : cy < S) :
    ∃ d', fX0_layDisc N (nI cx) (nI cy) (nI S) (nI (S * S)) o (nI r) 7 hw (S * S) d = some (nI (cnt (pX S r cx cy) (S * S)), d') ∧ Lst (pX S r cx cy) (S * S) d' := by
  have hm := mul_400 h20 h20
  have hS : 0 < S := by omega
  have far : ∀ c, r < nd (c / S) cy → pX S r cx cy c = false := by
    intro c h
    have h1 : (r + 1) * (r + 1) ≤ nd (c / S) cy * nd (c / S) cy := Nat.mul_le_mul h h
    have h3 : (r + 1) * (r + 1) = r * r + 2 * r + 1 := by rw [Nat.add_mul, Nat.mul_add]; omega
    exact decide_eq_false (by omega)
  have inner : ∀ y v (s : (Nat → Int32)), y < S → v ≤ r → (∀ u, u ≤ v ↔ u * u + nd y cy * nd y cy ≤ r * r) → Lst (pX S r cx cy) (S * y) s →
      ∃ s', Lst (pX S r cx cy) (S * (y + 1)) s' ∧ LX0_layDisc_80 (nI (if cx + v < S - 1 then cx + v else S - 1)) (nI (S * S)) N (nI y) (nI S) (S * S) N (nI (cx - v)) s (nI (cnt (pX S r cx cy) (S * y))) = some (nI ((if cx + v < S - 1 then cx + v else S - 1) + 1), s', nI (cnt (pX S r cx cy) (S * (y + 1)))) := by
    intro y v s hyS hv hu hL
    have hSy : S * (y + 1) ≤ S * S := Nat.mul_le_mul_left S hyS
    rw [Nat.mul_succ] at hSy
    have mem : ∀ x, x < S → (pX S r cx cy (S * y + x) = true ↔ nd x cx ≤ v) := by
      intro x hx'
      rw [pX_at hx', dsc, decide_eq_true_iff, hu]
    have gap1 : ∀ c, S * y ≤ c → c < S * y + (cx - v) → pX S r cx cy c = false := by
      intro c h1 h3
      obtain ⟨x, rfl⟩ : ∃ x, c = S * y + x := ⟨c - S * y, by omega⟩
      have := mem x (by omega)
      rw [nd] at this
      rw [← Bool.not_eq_true, this]
      omega
    obtain ⟨R, hRd⟩ : ∃ R, R = if cx + v < S - 1 then cx + v else S - 1 := ⟨_, rfl⟩
    have hR1 : R < S := by rw [hRd]; split <;> omega
    have hR2 : R + 1 ≤ S → cx - v ≤ R + 1 := by intro _; rw [hRd]; split <;> omega
    have hR3 : ∀ x, x < S → R < x → ¬ nd x cx ≤ v := by intro x h1 h3; rw [nd]; rw [hRd] at h3; split at h3 <;> omega
    have hR4 : ∀ x, cx - v ≤ x → x ≤ R → nd x cx ≤ v := by intro x h1 h3; rw [nd]; rw [hRd] at h3; split at h3 <;> omega
    rw [← hRd]
    have gap2 : ∀ c, S * y + (R + 1) ≤ c → c < S * (y + 1) → pX S r cx cy c = false := by
      intro c h1 h3
      rw [Nat.mul_succ] at h3
      obtain ⟨x, rfl⟩ : ∃ x, c = S * y + x := ⟨c - S * y, by omega⟩
      rw [← Bool.not_eq_true, mem x (by omega)]
      exact hR3 x (by omega) (by omega)
    have step : ∀ (n x : Nat) (s : Nat → Int32), x < R + 1 → (cx - v ≤ x ∧ Lst (pX S r cx cy) (S * y + x) s) → ∃ s', (cx - v ≤ x + 1 ∧ Lst (pX S r cx cy) (S * y + (x + 1)) s') ∧ LX0_layDisc_80 (nI R) (nI (S * S)) N (nI y) (nI S) (S * S) (n + 1) (nI x) s (nI (cnt (pX S r cx cy) (S * y + x))) = LX0_layDisc_80 (nI R) (nI (S * S)) N (nI y) (nI S) (S * S) n (nI (x + 1)) s' (nI (cnt (pX S r cx cy) (S * y + (x + 1)))) := by
      intro n x s hxR ⟨hxl, hLs⟩
      have hp : pX S r cx cy (S * y + x) = true := (mem x (by omega)).mpr (hR4 x hxl (by omega))
      have hcl := cnt_le (pX S r cx cy) (S * y + x)
      refine ⟨_, ⟨by omega, hLs.add hp⟩, ?_⟩
      rw [LX0_layDisc_80, if_neg (nI_nlt (by omega) (by omega)), if_neg (nI_ge (by omega) (by omega)), fX0_placeOf, Option.bind_some, if_neg (nI_in (by omega) (by omega)), nI_clamp (by omega), pk_mul, nI_add, nI_1, nI_1, ← Nat.add_assoc, cnt_t hp]
    obtain ⟨s', ⟨-, h3⟩, h4⟩ := loopI (fun n x s => LX0_layDisc_80 (nI R) (nI (S * S)) N (nI y) (nI S) (S * S) n (nI x) s (nI (cnt (pX S r cx cy) (S * y + x)))) (R + 1) _ (fun s => (nI (R + 1), s, nI (cnt (pX S r cx cy) (S * y + (R + 1))))) step (fun n s _ => by
      show LX0_layDisc_80 (nI R) (nI (S * S)) N (nI y) (nI S) (S * S) (n + 1) (nI (R + 1)) s (nI (cnt (pX S r cx cy) (S * y + (R + 1)))) = _
      rw [LX0_layDisc_80, if_pos (nI_lt (by omega) (by omega))]) (cx - v) N s (hR2 (by omega)) (by omega) ⟨Nat.le_refl _, hL.gap gap1⟩
    refine ⟨s', h3.gap gap2, ?_⟩
    rw [cnt_gap (a := S * y + (R + 1)) (b := S * (y + 1)) (by rw [Nat.mul_succ]; omega) gap2, ← h4]
    show _ = LX0_layDisc_80 (nI R) (nI (S * S)) N (nI y) (nI S) (S * S) N (nI (cx - v)) s (nI (cnt (pX S r cx cy) (S * y + (cx - v))))
    rw [cnt_gap (a := S * y) (b := S * y + (cx - v)) (by omega) gap1]
  obtain ⟨B, hB⟩ : ∃ B, B = if cy + r < S - 1 then cy + r else S - 1 := ⟨_, rfl⟩
  have hB1 : B < S := by rw [hB]; split <;> omega
  have hB2 : cy - r ≤ B + 1 := by rw [hB]; split <;> omega
  have hB3 : ∀ y, y < S → B < y → r < nd y cy := by intro x h1 h3; rw [nd]; rw [hB] at h3; split at h3 <;> omega
  have hB4 : ∀ y, cy - r ≤ y → y ≤ B → nd y cy ≤ r := by intro x h1 h3; rw [nd]; rw [hB] at h3; split at h3 <;> omega
  have step : ∀ (n y : Nat) (s : Nat → Int32), y < B + 1 → (cy - r ≤ y ∧ Lst (pX S r cx cy) (S * y) s) → ∃ s', (cy - r ≤ y + 1 ∧ Lst (pX S r cx cy) (S * (y + 1)) s') ∧ LX0_layDisc_34 (nI B) (nI cy) 7 (nI cx) hw (nI S) (nI (S * S)) N (S * S) (n + 1) (nI y) s (nI (cnt (pX S r cx cy) (S * y))) = LX0_layDisc_34 (nI B) (nI cy) 7 (nI cx) hw (nI S) (nI (S * S)) N (S * S) n (nI (y + 1)) s' (nI (cnt (pX S r cx cy) (S * (y + 1)))) := by
    intro n y s hyB ⟨hyl, hLs⟩
    have hnd := hB4 y hyl (by omega)
    obtain ⟨v, k1, k2, k3⟩ := hR (nd y cy) hnd
    obtain ⟨s', h3, h4⟩ := inner y v s (by omega) k2 k3 hLs
    refine ⟨s', ⟨by omega, h3⟩, ?_⟩
    rw [LX0_layDisc_34, if_neg (nI_nlt (by omega) (by omega)), nd_abs (by omega) (by omega), if_neg (nI_in (by omega) (by omega)), nI_clamp (by omega), k1, min1 (by omega) h20 (by omega) (by omega), max0 (by omega) (by omega), h4, Option.bind_some, nI_1]
  obtain ⟨s', ⟨-, h3⟩, h4⟩ := loopI (fun n y s => LX0_layDisc_34 (nI B) (nI cy) 7 (nI cx) hw (nI S) (nI (S * S)) N (S * S) n (nI y) s (nI (cnt (pX S r cx cy) (S * y)))) (B + 1) _ (fun s => (nI (B + 1), s, nI (cnt (pX S r cx cy) (S * (B + 1))))) step (fun n s _ => by
      show LX0_layDisc_34 (nI B) (nI cy) 7 (nI cx) hw (nI S) (nI (S * S)) N (S * S) (n + 1) (nI (B + 1)) s (nI (cnt (pX S r cx cy) (S * (B + 1)))) = _
      rw [LX0_layDisc_34, if_pos (nI_lt (by omega) (by omega))]) (cy - r) N d hB2 (by omega) ⟨Nat.le_refl _, fun c hc hp => by
        have h5 := row_lt hc hS
        rw [far c (by rw [nd]; generalize c / S = q at h5 ⊢; omega)] at hp
        cases hp⟩
  have gapE : ∀ c, S * (B + 1) ≤ c → c < S * S → pX S r cx cy c = false := fun c h5 h6 => far c (hB3 _ (row_lt h6 hS) (row_ge h5 hS))
  refine ⟨s', ?_, h3.gap gapE⟩
  rw [fX0_layDisc, min1 (by omega) h20 (by omega) (by omega), max0 (by omega) (by omega), ← hB]
  have e0 : (0 : Int32) = nI (cnt (pX S r cx cy) (S * (cy - r))) := by
    rw [cnt_zero (fun c hc => far c (by have h5 := row_lt hc hS; rw [nd]; generalize c / S = q at h5 ⊢; omega))]
    rfl
  rw [e0, show LX0_layDisc_34 (nI B) (nI cy) 7 (nI cx) hw (nI S) (nI (S * S)) N (S * S) N (nI (cy - r)) d (nI (cnt (pX S r cx cy) (S * (cy - r)))) = _ from h4, Option.bind_some, cnt_gap (a := S * (B + 1)) (b := S * S) (Nat.mul_le_mul_left S hB1) gapE]
