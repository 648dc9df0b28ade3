/-! read(): a statement. -/
theorem xl {L : Nat} : nI L - 1 + 1 = nI L := Int32.sub_add_cancel ..
theorem xl_m1 {L : Nat} (h : 1 ≤ L) (hL : L ≤ 3) : ¬ nI L - 1 = -1 := by
  rw [show nI L - 1 = nI (L - 1) from pk_sub (b := 1) h]
  exact nI_nm1 (by omega)
theorem letter_no {N n p L : Nat} {xt mt : Nat → Int32} (h : TX n xt mt) (hL : L ≤ 3) (hc : ∀ k, L ≤ k → k ≤ 2 → ¬ chr n xt p = nI (88 + k)) : fX7_isIn N (chr n xt p - 88) (nI L) 2 = some 0 := by
  rw [fX7_isIn]
  rcases chr_c (p := p) h with ⟨hp, c, h1, h2, e⟩ | ⟨hp, e⟩
  · rw [e]
    by_cases h88 : 88 ≤ c
    · rw [show nI c - 88 = nI (c - 88) from pk_sub (b := 88) h88]
      by_cases hl : c - 88 < L
      · rw [if_pos (nI_lt hl (by omega))]
      · rw [if_neg (nI_nlt (by omega) (by omega)), if_pos]
        refine nI_lt (a := 2) ?_ (by omega)
        refine Nat.not_le.mp fun hh => hc (c - 88) (by omega) hh ?_
        rw [e, show 88 + (c - 88) = c by omega]
    · have hlt : nI c - 88 < nI L := Int32.lt_of_lt_of_le (pk_sneg (a := c) (b := 88) (by omega) (by omega)) (nI_pos' (by omega))
      rw [if_pos hlt]
  · rw [e, if_pos (Int32.lt_of_lt_of_le (by decide) (nI_pos' (n := L) (by omega)))]
theorem f106_out {N n a S m : Nat} {x3 q ft : Int32} {mt dr : Nat → Int32} (hm : 1 ≤ m) (hf : ¬ ft = -1) : LX7_statement_106 N (nI n) 240 mt (nI a) 160 (nI S) m x3 q dr ft = some (x3, q, dr, ft) := by
  obtain ⟨m, rfl⟩ : ∃ k, m = k + 1 := ⟨m - 1, by omega⟩
  rw [LX7_statement_106, if_neg hf]
/-- the head of the loop: on to the next letter -/
theorem f106_in {N n a S m L p : Nat} {xt mt dr : Nat → Int32} (h : TX n xt mt) (hp : p ≤ n) (hL : L ≤ 3) (h0 : L = 0 ∨ ¬ chr n xt p = 59) :
    LX7_statement_106 N (nI n) 240 mt (nI a) 160 (nI S) (m + 1) (nI L - 1) (nI p) dr (-1) = JX7_statement_128 (fun b0 b1 b2 b3 => LX7_statement_106 N (nI n) 240 mt (nI a) 160 (nI S) m b0 b1 b2 b3) N (nI n) (nI p) 240 mt (nI L - 1) (-1) (nI a) 160 dr (nI S) := by
  rw [LX7_statement_106, if_pos rfl]
  by_cases e : L = 0
  · subst e
    rw [if_pos (by decide)]
  · rw [if_neg (xl_m1 (by omega) hL), now_s h hp, Option.bind_some, if_neg (h0.resolve_left e)]
theorem f106_fail {N n a S m L p : Nat} {xt mt dr : Nat → Int32} (hN : 1000 ≤ N) (h : TX n xt mt) (hp : p ≤ n) (hL : L ≤ 3) (h0 : L = 0 ∨ ¬ chr n xt p = 59) (hc : ∀ k, L ≤ k → k ≤ 2 → ¬ chr n xt p = nI (88 + k)) (hm : 2 ≤ m) :
    LX7_statement_106 N (nI n) 240 mt (nI a) 160 (nI S) m (nI L - 1) (nI p) dr (-1) = some (nI L - 1, nI p, dr, nI p) := by
  obtain ⟨m, rfl⟩ : ∃ k, m = k + 1 := ⟨m - 1, by omega⟩
  have hn := h.1
  have hnf : ¬ nI p = -1 := nI_nm1 (by omega)
  have h168 : ∀ w k13, JX7_statement_168 (fun b0 b1 b2 b3 => LX7_statement_106 N (nI n) 240 mt (nI a) 160 (nI S) m b0 b1 b2 b3) N (nI n) (nI p, nI p) 240 mt (nI a) k13 160 dr (nI L - 1) w = some (nI L - 1, nI p, dr, nI p) := fun w k13 => by
    obtain ⟨x, hx⟩ := number_f (N := N) (w := w) hN h hp hnf
    rw [JX7_statement_168, hx, Option.bind_some, if_neg hnf, spaces_f hN hnf, Option.bind_some]
    exact f106_out (by omega) hnf
  rw [f106_in h hp hL h0, JX7_statement_128, now_s h hp, Option.bind_some, xl, letter_no h hL hc, Option.bind_some, must0 (by omega), Option.bind_some, h168, h168, ite_self]
def lim (S k : Nat) : Nat := if k = 2 then 100 else S - 1
theorem f106_letter {N n a S m L p k : Nat} {xt mt dr : Nat → Int32} (h : TX n xt mt) (hp : p ≤ n) (hS : 1 ≤ S) (hL : L ≤ k) (hk : k ≤ 2) (hc : chr n xt p = nI (88 + k)) :
    LX7_statement_106 N (nI n) 240 mt (nI a) 160 (nI S) (m + 1) (nI L - 1) (nI p) dr (-1) = JX7_statement_168 (fun b0 b1 b2 b3 => LX7_statement_106 N (nI n) 240 mt (nI a) 160 (nI S) m b0 b1 b2 b3) N (nI n) (nI (p + 1), -1) 240 mt (nI a) (nI k) 160 dr (nI L - 1) (nI (lim S k)) := by
  have e59 : ¬ chr n xt p = 59 := by
    rw [hc, qn59, nI_eq (by omega) (by omega)]
    omega
  rw [f106_in h hp (by omega) (Or.inr e59), JX7_statement_128, now_s h hp, Option.bind_some, hc, show nI (88 + k) - 88 = nI k by
    rw [show nI (88 + k) - 88 = nI (88 + k - 88) from pk_sub (b := 88) (by omega), show 88 + k - 88 = k by omega], xl, fX7_isIn, if_neg (nI_nlt hL (by omega)), qn2, if_neg (nI_nlt hk (by omega)), Option.bind_some, must1, Option.bind_some, lim]
  by_cases e : k = 2
  · rw [if_pos (by rw [e]), if_pos e]; rfl
  · rw [if_neg (by rw [nI_eq (by omega) (by omega)]; exact e), if_neg e, show nI S - 1 = nI (S - 1) from pk_sub (b := 1) hS]
/-- the one stands at letter j in place q, the other at the head of its loop in place p -/
def Rel (N n : Nat) (xt : Nat → Int32) (L j q p : Nat) : Prop := fX4_skipSpaces N (nI n) (nI q) 240 xt = some (nI p) ∧ p ≤ n ∧ ¬ chr n xt p = 32 ∧ L ≤ j ∧ ∀ i, L ≤ i → i < j → ¬ chr n xt p = nI (88 + i)
theorem axis {N n a S m L j q p k : Nat} {xt mt dr : Nat → Int32} (hN : 1000 ≤ N) (h : TX n xt mt) (hS : 2 ≤ S) (hS20 : S ≤ 20) (ha : a < 32) (hj : j ≤ 2) (hR : Rel N n xt L j q p) (hk : 2 ≤ k) (hm : k + 1 ≤ m) (hdr : dr (5 * a + 1 + j) = -1) :
    (∃ f x q' , f ≤ n ∧ q' ≤ n ∧ fX4_takeNumber N (nI (88 + j)) (nI (lim S j)) (nI n) (nI q) 240 xt = some (-2, nI f) ∧ LX7_statement_106 N (nI n) 240 mt (nI a) 160 (nI S) m (nI L - 1) (nI p) dr (-1) = some (x, nI q', dr, nI f)) ∨
    ∃ t q' p' L' dr' m', k ≤ m' ∧ Told t (lim S j + 1) ∧ fX4_takeNumber N (nI (88 + j)) (nI (lim S j)) (nI n) (nI q) 240 xt = some (t, nI q') ∧ Rel N n xt L' (j + 1) q' p' ∧ (t = -1 → q' = p') ∧ (L' = 0 ↔ L = 0 ∧ t = -1) ∧
      LX7_statement_106 N (nI n) 240 mt (nI a) 160 (nI S) m (nI L - 1) (nI p) dr (-1) = LX7_statement_106 N (nI n) 240 mt (nI a) 160 (nI S) m' (nI L' - 1) (nI p') dr' (-1) ∧ dr' (5 * a + 1 + j) = t ∧ ∀ i, ¬ i = 5 * a + 1 + j → dr' i = dr i := by
  obtain ⟨r1, r2, r3, r4, r5⟩ := hR
  have hn := h.1
  have hlim : lim S j ≤ 100 := by rw [lim]; split <;> omega
  by_cases hc : chr n xt p = nI (88 + j)
  · have hpn : p < n := chr_lt hc (by omega)
    obtain ⟨m, rfl⟩ : ∃ k, m = k + 1 := ⟨m - 1, by omega⟩
    have htn : fX4_takeNumber N (nI (88 + j)) (nI (lim S j)) (nI n) (nI q) 240 xt = ((LX4_takeNumber_35 N (nI n) 240 xt N 0 0 (nI (p + 1))).bind fun r4 => JX4_takeNumber_90 (nI (p + 1)) (nI (lim S j)) r4.1 r4.2.2) := by
      rw [fX4_takeNumber, r1, Option.bind_some, here_s h (by omega), Option.bind_some, if_pos hc, nI_1]
    rcases num_s (N := N) (p := p + 1) (w := lim S j) hN h (by omega) hlim with ⟨e1, x, q', hq', e2⟩ | ⟨v, p', hv, hp', e1, e2⟩
    · have hnf : ¬ nI (p + 1) = -1 := nI_nm1 (by omega)
      refine Or.inl ⟨p + 1, nI L - 1, q', by omega, hq', by rw [htn, e1], ?_⟩
      rw [f106_letter h (by omega) (by omega) r4 hj hc, JX7_statement_168, e2, Option.bind_some, if_neg hnf, spaces_f hN hnf, Option.bind_some]
      exact f106_out (by omega) hnf
    · obtain ⟨p'', b1, b2, b3, b4, b5⟩ := skip_s (N := N) hN h hp'
      refine Or.inr ⟨nI v, p', p'', j + 1, upd dr (5 * a + 1 + j) (nI v), m, by omega, Or.inr ⟨v, by omega, rfl⟩, by rw [htn, e1], ⟨b4, b2, b3, Nat.le_refl _, fun i h1 h2 => by omega⟩, fun e => absurd e (nI_nm1 (by omega)), ⟨fun e => by omega, fun e => absurd e.2 (nI_nm1 (by omega))⟩, ?_, pk_us, fun i hi => pk_un hi⟩
      have h5 : (5 : Int32) * nI a + 1 + nI j = nI (5 * a + 1 + j) := by rw [qn5, pk_mul, nI_1, nI_add]
      rw [f106_letter h (by omega) (by omega) r4 hj hc, JX7_statement_168, e2, Option.bind_some, if_pos rfl, h5, if_neg (nI_in (by omega) (by omega)), b5, Option.bind_some, nI_clamp (by omega), show nI (j + 1) - 1 = nI j from pk_sub (a := j + 1) (b := 1) (by omega)]
  · refine Or.inr ⟨-1, p, p, L, dr, m, by omega, Or.inl rfl, ?_, ⟨skip_id hN h r2 r3, r2, r3, by omega, fun i h1 h2 => ?_⟩, fun _ => rfl, ⟨fun e => ⟨e, rfl⟩, fun e => e.1⟩, rfl, hdr, fun _ _ => rfl⟩
    · rw [fX4_takeNumber, r1, Option.bind_some, here_s h r2, Option.bind_some, if_neg hc]
    · by_cases e : i = j
      · rw [e]; exact hc
      · exact r5 i h1 (by omega)
theorem end_s {N n q p : Nat} {xt mt : Nat → Int32} (h : TX n xt mt) (hs : fX4_skipSpaces N (nI n) (nI q) 240 xt = some (nI p)) (hp : p ≤ n) : (chr n xt p = 59 → fX4_takeEnd N (nI n) (nI q) 240 xt = some (1, nI (p + 1))) ∧ (¬ chr n xt p = 59 → fX4_takeEnd N (nI n) (nI q) 240 xt = some (0, nI p)) := by
  constructor
  · intro e
    rw [fX4_takeEnd, hs, Option.bind_some, here_s h hp, Option.bind_some, if_pos e, nI_1]
  · intro e
    rw [fX4_takeEnd, hs, Option.bind_some, here_s h hp, Option.bind_some, if_neg e]
theorem e206 {N n p : Nat} {xt mt dr : Nat → Int32} (h : TX n xt mt) (hp : p ≤ n) : (chr n xt p = 59 → JX7_statement_206 N (nI n) 240 mt (nI p) dr (-1) = some (nI (p + 1), -1, dr)) ∧ (¬ chr n xt p = 59 → JX7_statement_206 N (nI n) 240 mt (nI p) dr (-1) = some (nI p, nI p, dr)) := by
  have hn := h.1
  constructor
  · intro e
    rw [JX7_statement_206, now_s h hp, Option.bind_some, if_pos e, must1, Option.bind_some]
  · intro e
    rw [JX7_statement_206, now_s h hp, Option.bind_some, if_neg e, must0 (by omega), Option.bind_some]
theorem s28 {N a : Nat} {dr : Nat → Int32} (hN : 1000 ≤ N) (ha : a < 32) : ∃ dr', LX7_statement_28 (nI a) 160 N 1 dr = some (nI 5, dr') ∧ (∀ j, 1 ≤ j → j < 5 → dr' (5 * a + j) = -1) ∧ ∀ i, i < 5 * a + 1 ∨ 5 * a + 5 ≤ i → dr' i = dr i := by
  obtain ⟨dr', ⟨-, h1, h2⟩, h3⟩ := loopI (fun m k (s : Nat → Int32) => LX7_statement_28 (nI a) 160 m (nI k) s) 5 (fun k s => 1 ≤ k ∧ (∀ j, 1 ≤ j → j < k → s (5 * a + j) = -1) ∧ ∀ i, i < 5 * a + 1 ∨ 5 * a + 5 ≤ i → s i = dr i) (fun s => (nI 5, s))
    (fun m k s hk ⟨hP0, hP1, hP2⟩ => by
      refine ⟨upd s (5 * a + k) (-1), ⟨by omega, fun j h1 h2 => ?_, fun i hi => ?_⟩, ?_⟩
      · by_cases e : j = k
        · rw [e]; exact pk_us
        · rw [pk_un (by omega)]; exact hP1 j h1 (by omega)
      · rw [pk_un (by omega)]; exact hP2 i hi
      · show LX7_statement_28 (nI a) 160 (m + 1) (nI k) s = _
        rw [LX7_statement_28, qn5, if_neg (nI_ge hk (by omega)), pk_mul, nI_add, if_neg (nI_in (by omega) (by omega)), nI_clamp (by omega), nI_1])
    (fun m s _ => by
      show LX7_statement_28 (nI a) 160 (m + 1) (nI 5) s = _
      rw [LX7_statement_28, qn5, if_pos (nI_le (Nat.le_refl _) (by omega))]) 1 N dr (by omega) (by omega) ⟨Nat.le_refl _, fun j h1 h2 => absurd h2 (by omega), fun _ _ => rfl⟩
  exact ⟨dr', h3, h1, h2⟩
theorem add_s {N a : Nat} {l d x y z : Int32} {ls dg xs ys zs : Nat → Int32} (ha : a < 32) : fX3_add N l d x y z (nI a) 32 ls 32 dg 32 xs 32 ys 32 zs = some (nI (a + 1), upd ls a (vp_nar .char l), upd dg a d, upd xs a x, upd ys a y, upd zs a z) := by
  have hi := nI_in ha (show 32 < 2 ^ 31 by omega)
  rw [fX3_add, qn32, if_neg (nI_ge ha (by omega)), if_neg hi, if_neg hi, if_neg hi, if_neg hi, if_neg hi, nI_clamp (by omega), nI_1]
/-- what a statement leaves, in both -/
def StP (S n a : Nat) (ls dg xs ys zs dr : Nat → Int32) (cl : Option RX4_takeStatement) (rf : Option RX7_statement) : Prop :=
  (∃ f q dr', f ≤ n ∧ q ≤ n ∧ cl = some (0, nI f, nI a, ls, dg, xs, ys, zs) ∧ rf = some (nI q, nI f, dr')) ∨
  ∃ p' ls' dg' xs' ys' zs' dr', p' ≤ n ∧ cl = some (1, nI p', nI (a + 1), ls', dg', xs', ys', zs') ∧ rf = some (nI p', -1, dr') ∧ (∀ b, b < a → ls' b = ls b ∧ dg' b = dg b ∧ xs' b = xs b ∧ ys' b = ys b ∧ zs' b = zs b) ∧ (∀ i, i < 5 * a → dr' i = dr i) ∧ Stm S (ls' a) (dg' a) (xs' a) (ys' a) (zs' a) dr' a
theorem change_s {N S n a p : Nat} {xt mt ls dg xs ys zs dr : Nat → Int32} (hN : 1000 ≤ N) (h : TX n xt mt) (ha : a < 32) (hp : p < n) (hc : chr n xt p = 84) :
    StP S n a ls dg xs ys zs dr (fX4_takeChange N (nI n) (nI p) (nI a) 240 xt 32 ls 32 dg 32 xs 32 ys 32 zs) (fX7_statement N (nI a) (nI S) (nI n) (nI p) (-1) 240 mt 160 dr) := by
  have hn := h.1
  obtain ⟨d0, c1, c2, c3⟩ := s28 (N := N) (dr := dr) hN ha
  have h5 : (5 : Int32) * nI a = nI (5 * a) := pk_mul 5 a
  have h54 : nI (5 * a) + 4 = nI (5 * a + 4) := nI_add (5 * a) 4
  have href : fX7_statement N (nI a) (nI S) (nI n) (nI p) (-1) 240 mt 160 dr = ((fX7_digit N 3 (nI n) (nI (p + 1)) (-1) 240 mt).bind fun r18 => (fX7_spaces N (nI n) r18.2.1 r18.2.2 240 mt).bind fun r19 => JX7_statement_206 N (nI n) 240 mt r19 (upd (upd d0 (5 * a) 2) (5 * a + 4) r18.1) r18.2.2) := by
    rw [fX7_statement, now_s h (by omega), Option.bind_some, hc, if_pos rfl, JX7_statement_18, JX7_statement_23, must1, Option.bind_some, c1, Option.bind_some, if_pos rfl, h5, if_neg (nI_in (by omega) (by omega)), h54, nI_clamp (by omega), nI_clamp (by omega)]
    congr 1
    funext r18
    rw [if_neg (nI_in'n (n := 160) (by omega) (by omega))]
  rcases digit_s (N := N) (p := p + 1) (w := 3) h (by omega) (by omega) with ⟨k, hk, hpk, e1, e2⟩ | ⟨e1, d, e2⟩
  · obtain ⟨p', b1, b2, b3, b4, b5⟩ := skip_s (N := N) hN h (p := p + 1 + 1) (by omega)
    have e1' : fX4_takeDigit N 3 (nI n) (nI (p + 1)) 240 xt = some (nI k, nI (p + 1 + 1)) := e1
    have e2' : fX7_digit N 3 (nI n) (nI (p + 1)) (-1) 240 mt = some (nI k, nI (p + 1 + 1), -1) := e2
    have hkn : ¬ nI k = -2 := fun e => by
      have h1 := congrArg Int32.toInt e
      rw [nI_toInt (by omega)] at h1
      have : (-2 : Int32).toInt = -2 := rfl
      omega
    by_cases h59 : chr n xt p' = 59
    · have hp'n : p' < n := chr_lt (c := 59) h59 (by omega)
      refine Or.inr ⟨p' + 1, upd ls a 84, upd dg a (nI k), upd xs a (-1), upd ys a (-1), upd zs a (-1), upd (upd d0 (5 * a) 2) (5 * a + 4) (nI k), by omega, ?_, ?_, fun b hb => ⟨pk_un (by omega), pk_un (by omega), pk_un (by omega), pk_un (by omega), pk_un (by omega)⟩, fun i hi => ?_, ?_⟩
      · rw [fX4_takeChange, nI_1, e1', Option.bind_some, if_neg hkn, (end_s (N := N) h b4 b2).1 h59, Option.bind_some, if_neg (show ¬ (1 : Int32) = 0 by decide), add_s ha, Option.bind_some, nc84]
      · rw [href, e2', Option.bind_some, b5, Option.bind_some, (e206 (N := N) h b2).1 h59]
      · rw [pk_un (by omega), pk_un (by omega), c3 i (by omega)]
      · refine Or.inl ⟨pk_us, ?_, ?_, k, by omega, pk_us⟩
        · rw [pk_un (by omega), pk_us]
        · rw [pk_us, pk_us]
    · refine Or.inl ⟨p', p', upd (upd d0 (5 * a) 2) (5 * a + 4) (nI k), b2, b2, ?_, ?_⟩
      · rw [fX4_takeChange, nI_1, e1', Option.bind_some, if_neg hkn, (end_s (N := N) h b4 b2).2 h59, Option.bind_some, if_pos rfl]
      · rw [href, e2', Option.bind_some, b5, Option.bind_some, (e206 (N := N) h b2).2 h59]
  · have e1' : fX4_takeDigit N 3 (nI n) (nI (p + 1)) 240 xt = some (-2, nI (p + 1)) := e1
    have e2' : fX7_digit N 3 (nI n) (nI (p + 1)) (-1) 240 mt = some (d, nI (p + 1), nI (p + 1)) := e2
    have hnf : ¬ nI (p + 1) = -1 := nI_nm1 (by omega)
    refine Or.inl ⟨p + 1, p + 1, upd (upd d0 (5 * a) 2) (5 * a + 4) d, by omega, by omega, ?_, ?_⟩
    · rw [fX4_takeChange, nI_1, e1', Option.bind_some, if_pos rfl]
    · rw [href, e2', Option.bind_some, spaces_f hN hnf, Option.bind_some]
      exact end_f h (by omega) hnf
