/-! read(): the small steps of both readers. -/
def chr (n : Nat) (t : Nat → Int32) (p : Nat) : Int32 := if p < n then t p else -1
theorem nc84 : vp_nar .char 84 = 84 := rfl
theorem nc71 : vp_nar .char 71 = 71 := rfl
theorem here_s {N n p : Nat} {xt mt : Nat → Int32} (h : TX n xt mt) (hp : p ≤ n) : fX4_here N (nI n) (nI p) 240 xt = some (chr n xt p) := by
  have hn := h.1
  rw [fX4_here, if_neg (nI_pos (by omega)), chr]
  by_cases e : p < n
  · rw [if_neg (nI_ge e (by omega)), if_neg (nI_in (by omega) (by omega)), nI_clamp (by omega), if_pos e]
  · rw [if_pos (nI_le (by omega) (by omega)), if_neg e]
theorem now_s {N n p : Nat} {xt mt : Nat → Int32} (h : TX n xt mt) (hp : p ≤ n) : fX7_now N (nI n) (nI p) 240 mt = some (chr n xt p) := by
  have hn := h.1
  rw [fX7_now, chr]
  by_cases e : p < n
  · obtain ⟨c, -, -, e1, e2⟩ := h.2 p e
    rw [if_neg (nI_ge e (by omega)), if_neg (nI_in (by omega) (by omega)), nI_clamp (by omega), if_pos e, e1, e2]
  · rw [if_pos (nI_le (by omega) (by omega)), if_neg e]
theorem chr_c {n p : Nat} {xt mt : Nat → Int32} (h : TX n xt mt) : (p < n ∧ ∃ c, 32 ≤ c ∧ c ≤ 126 ∧ chr n xt p = nI c) ∨ (n ≤ p ∧ chr n xt p = -1) := by
  by_cases e : p < n
  · obtain ⟨c, h1, h2, e1, e2⟩ := h.2 p e
    exact Or.inl ⟨e, c, h1, h2, by rw [chr, if_pos e, e1]⟩
  · exact Or.inr ⟨by omega, by rw [chr, if_neg e]⟩
theorem chr_lt {n p c : Nat} {xt : Nat → Int32} (h : chr n xt p = nI c) (hc : c < 1000) : p < n := by
  by_cases e : p < n
  · exact e
  · rw [chr, if_neg e] at h
    exact absurd h.symm (nI_nm1 hc)
theorem skip_s {N n : Nat} {xt mt : Nat → Int32} (hN : 1000 ≤ N) (h : TX n xt mt) {p : Nat} (hp : p ≤ n) : ∃ p', p ≤ p' ∧ p' ≤ n ∧ ¬ chr n xt p' = 32 ∧ fX4_skipSpaces N (nI n) (nI p) 240 xt = some (nI p') ∧ fX7_spaces N (nI n) (nI p) (-1) 240 mt = some (nI p') := by
  have hn := h.1
  have key : ∀ (d m1 m2 p : Nat), p + d = n → d < m1 → d < m2 → ∃ p', p ≤ p' ∧ p' ≤ n ∧ ¬ chr n xt p' = 32 ∧ LX4_skipSpaces_0 (nI n) N 240 xt m1 (nI p) = some (nI p') ∧ LX7_spaces_0 (-1) N (nI n) 240 mt m2 (nI p) = some (nI p') := by
    intro d
    induction d with
    | zero =>
      intro m1 m2 p e h1 h2
      obtain ⟨m1, rfl⟩ : ∃ k, m1 = k + 1 := ⟨m1 - 1, by omega⟩
      obtain ⟨m2, rfl⟩ : ∃ k, m2 = k + 1 := ⟨m2 - 1, by omega⟩
      have hc : chr n xt p = -1 := by rw [chr, if_neg (by omega)]
      refine ⟨p, Nat.le_refl _, by omega, by rw [hc]; decide, ?_, ?_⟩
      · rw [LX4_skipSpaces_0, if_pos (nI_le (by omega) (by omega))]
      · rw [LX7_spaces_0, if_pos rfl, now_s h (by omega), Option.bind_some, hc, if_neg (by decide)]
    | succ d ih =>
      intro m1 m2 p e h1 h2
      obtain ⟨m1, rfl⟩ : ∃ k, m1 = k + 1 := ⟨m1 - 1, by omega⟩
      obtain ⟨m2, rfl⟩ : ∃ k, m2 = k + 1 := ⟨m2 - 1, by omega⟩
      by_cases hc : chr n xt p = 32
      · obtain ⟨p', a1, a2, a3, a4, a5⟩ := ih m1 m2 (p + 1) (by omega) (by omega) (by omega)
        refine ⟨p', by omega, a2, a3, ?_, ?_⟩
        · rw [LX4_skipSpaces_0, if_neg (nI_ge (by omega) (by omega)), here_s h (by omega), Option.bind_some, if_pos hc, nI_1, a4]
        · rw [LX7_spaces_0, if_pos rfl, now_s h (by omega), Option.bind_some, if_pos hc, nI_1, a5]
      · refine ⟨p, Nat.le_refl _, by omega, hc, ?_, ?_⟩
        · rw [LX4_skipSpaces_0, if_neg (nI_ge (by omega) (by omega)), here_s h (by omega), Option.bind_some, if_neg hc]
        · rw [LX7_spaces_0, if_pos rfl, now_s h (by omega), Option.bind_some, if_neg hc]
  obtain ⟨p', a1, a2, a3, a4, a5⟩ := key (n - p) N N p (by omega) (by omega) (by omega)
  exact ⟨p', a1, a2, a3, by rw [fX4_skipSpaces, a4, Option.bind_some], by rw [fX7_spaces, a5, Option.bind_some]⟩
theorem skip_id {N n p : Nat} {xt mt : Nat → Int32} (hN : 1000 ≤ N) (h : TX n xt mt) (hp : p ≤ n) (hc : ¬ chr n xt p = 32) : fX4_skipSpaces N (nI n) (nI p) 240 xt = some (nI p) := by
  have hn := h.1
  obtain ⟨M, hM⟩ : ∃ M, N = M + 1 := ⟨N - 1, by omega⟩
  have : LX4_skipSpaces_0 (nI n) N 240 xt (M + 1) (nI p) = some (nI p) := by
    rw [LX4_skipSpaces_0]
    by_cases e : n ≤ p
    · rw [if_pos (nI_le e (by omega))]
    · rw [if_neg (nI_ge (by omega) (by omega)), here_s h (by omega), Option.bind_some, if_neg hc]
  rw [← hM] at this
  rw [fX4_skipSpaces, this, Option.bind_some]
theorem isIn_s {N : Nat} {a b c : Int32} : fX7_isIn N a b c = some 0 ∨ fX7_isIn N a b c = some 1 := by
  unfold fX7_isIn
  split
  · exact Or.inl rfl
  · split
    · exact Or.inl rfl
    · exact Or.inr rfl
theorem must1 {N p : Nat} : fX7_must N 1 (nI p) (-1) = some (nI (p + 1), -1) := by
  rw [fX7_must, if_pos rfl, if_neg (by decide), if_pos rfl, nI_1]
theorem must0 {N p : Nat} (hp : p < 1000) : fX7_must N 0 (nI p) (-1) = some (nI p, nI p) := by
  rw [fX7_must, if_pos rfl, if_pos rfl, if_neg (nI_nm1 hp)]
theorem mustF {N : Nat} {a q ft : Int32} (h : ¬ ft = -1) : fX7_must N a q ft = some (q, ft) := by
  rw [fX7_must, if_neg h, if_neg h]
/-- a character against a range of digits -/
theorem dig_c {n p w : Nat} {xt mt : Nat → Int32} (h : TX n xt mt) (hw : w ≤ 9) : (∃ k, k ≤ w ∧ p < n ∧ chr n xt p = nI (48 + k) ∧ chr n xt p - 48 = nI k) ∨ (chr n xt p - 48 < 0 ∧ ¬ (∃ k, k ≤ w ∧ chr n xt p = nI (48 + k))) ∨ (¬ chr n xt p - 48 < 0 ∧ ¬ chr n xt p - 48 ≤ nI w ∧ ¬ (∃ k, k ≤ w ∧ chr n xt p = nI (48 + k))) := by
  rcases chr_c (p := p) h with ⟨hp, c, h1, h2, e⟩ | ⟨hp, e⟩
  · rw [e]
    by_cases h48 : 48 ≤ c
    · have e2 : nI c - 48 = nI (c - 48) := pk_sub (b := 48) h48
      rw [e2]
      by_cases hk : c - 48 ≤ w
      · exact Or.inl ⟨c - 48, hk, hp, by rw [show 48 + (c - 48) = c by omega], rfl⟩
      · refine Or.inr (Or.inr ⟨nI_pos (by omega), nI_ge (by omega) (by omega), ?_⟩)
        rintro ⟨k, k1, k2⟩
        rw [nI_eq (by omega) (by omega)] at k2
        omega
    · refine Or.inr (Or.inl ⟨pk_sneg (b := 48) (by omega) (by omega), ?_⟩)
      rintro ⟨k, k1, k2⟩
      rw [nI_eq (by omega) (by omega)] at k2
      omega
  · rw [e]
    refine Or.inr (Or.inl ⟨by decide, ?_⟩)
    rintro ⟨k, k1, k2⟩
    exact nI_nm1 (g := 48 + k) (by omega) k2.symm
theorem digit_s {N n p w : Nat} {xt mt : Nat → Int32} (h : TX n xt mt) (hp : p ≤ n) (hw : w ≤ 9) :
    (∃ k, k ≤ w ∧ p < n ∧ fX4_takeDigit N (nI w) (nI n) (nI p) 240 xt = some (nI k, nI (p + 1)) ∧ fX7_digit N (nI w) (nI n) (nI p) (-1) 240 mt = some (nI k, nI (p + 1), -1)) ∨
    (fX4_takeDigit N (nI w) (nI n) (nI p) 240 xt = some (-2, nI p) ∧ ∃ d, fX7_digit N (nI w) (nI n) (nI p) (-1) 240 mt = some (d, nI p, nI p)) := by
  have hn := h.1
  rcases dig_c (p := p) h hw with ⟨k, hk, hpn, -, e⟩ | ⟨e, -⟩ | ⟨e1, e2, -⟩
  · refine Or.inl ⟨k, hk, hpn, ?_, ?_⟩
    · rw [fX4_takeDigit, here_s h hp, Option.bind_some, e, if_neg (nI_pos (by omega)), if_pos (nI_le hk (by omega)), nI_1]
    · rw [fX7_digit, now_s h hp, Option.bind_some, e, fX7_isIn, if_neg (nI_pos (by omega)), if_neg (nI_nlt hk (by omega)), Option.bind_some, must1, Option.bind_some]
  · refine Or.inr ⟨?_, chr n xt p - 48, ?_⟩
    · rw [fX4_takeDigit, here_s h hp, Option.bind_some, if_pos e]
    · rw [fX7_digit, now_s h hp, Option.bind_some, fX7_isIn, if_pos e, Option.bind_some, must0 (by omega), Option.bind_some]
  · refine Or.inr ⟨?_, chr n xt p - 48, ?_⟩
    · rw [fX4_takeDigit, here_s h hp, Option.bind_some, if_neg e1, if_neg e2]
    · rw [fX7_digit, now_s h hp, Option.bind_some, fX7_isIn, if_neg e1, if_pos (Int32.not_le.mp e2), Option.bind_some, must0 (by omega), Option.bind_some]
theorem digit_f {N n q : Nat} {w ft : Int32} {xt mt : Nat → Int32} (h : TX n xt mt) (hq : q ≤ n) (hf : ¬ ft = -1) : ∃ d, fX7_digit N w (nI n) (nI q) ft 240 mt = some (d, nI q, ft) := by
  refine ⟨chr n xt q - 48, ?_⟩
  rw [fX7_digit, now_s h hq, Option.bind_some]
  rcases isIn_s (N := N) (a := chr n xt q - 48) (b := 0) (c := w) with e | e <;> rw [e, Option.bind_some, mustF hf, Option.bind_some]
theorem spaces_f {N n : Nat} {q ft : Int32} {mt : Nat → Int32} (hN : 1000 ≤ N) (hf : ¬ ft = -1) : fX7_spaces N (nI n) q ft 240 mt = some q := by
  obtain ⟨M, hM⟩ : ∃ M, N = M + 1 := ⟨N - 1, by omega⟩
  have : LX7_spaces_0 ft N (nI n) 240 mt (M + 1) q = some q := by rw [LX7_spaces_0, if_neg hf]
  rw [← hM] at this
  rw [fX7_spaces, this, Option.bind_some]
theorem number_f {N n q : Nat} {w ft : Int32} {xt mt : Nat → Int32} (hN : 1000 ≤ N) (h : TX n xt mt) (hq : q ≤ n) (hf : ¬ ft = -1) : ∃ x, fX7_number N w (nI n) (nI q) ft 240 mt = some (x, nI q, ft) := by
  obtain ⟨d, hd⟩ := digit_f (N := N) (w := 9) h hq hf
  obtain ⟨M, hM⟩ : ∃ M, N = M + 1 := ⟨N - 1, by omega⟩
  have : LX7_number_15 N (nI n) 240 mt (M + 1) d 1 (nI q) ft = some (d, 1, nI q, ft) := by rw [LX7_number_15, if_neg hf]
  rw [← hM] at this
  exact ⟨d, by rw [fX7_number, hd, Option.bind_some, this, Option.bind_some, JX7_number_61, if_neg hf]⟩
theorem end_f {N n q : Nat} {ft : Int32} {xt mt dr : Nat → Int32} (h : TX n xt mt) (hq : q ≤ n) (hf : ¬ ft = -1) : JX7_statement_206 N (nI n) 240 mt (nI q) dr ft = some (nI q, ft, dr) := by
  rw [JX7_statement_206, now_s h hq, Option.bind_some, mustF hf, mustF hf, Option.bind_some]
  exact ite_self _
/-- the digits of a number behind its first -/
theorem digits_s {N n : Nat} {xt mt : Nat → Int32} (h : TX n xt mt) : ∀ (d m1 m2 k v p : Nat), k + d = 3 → 1 ≤ k → d < m1 → d < m2 → p ≤ n → ((k = 1 → v ≤ 9) ∧ (k = 2 → v ≤ 99) ∧ (k = 3 → v ≤ 999)) →
    ∃ v' p' x1 x2, v' ≤ 999 ∧ p ≤ p' ∧ p' ≤ n ∧ LX4_takeNumber_35 N (nI n) 240 xt m1 (nI v) (nI k) (nI p) = some (nI v', x1, nI p') ∧ LX7_number_15 N (nI n) 240 mt m2 (nI v) (nI k) (nI p) (-1) = some (nI v', x2, nI p', -1) := by
  have hn := h.1
  intro d
  induction d with
  | zero =>
    intro m1 m2 k v p e hk h1 h2 hp hv
    obtain ⟨m1, rfl⟩ : ∃ k, m1 = k + 1 := ⟨m1 - 1, by omega⟩
    obtain ⟨m2, rfl⟩ : ∃ k, m2 = k + 1 := ⟨m2 - 1, by omega⟩
    have hk3 : k = 3 := by omega
    subst hk3
    refine ⟨v, p, nI 3, nI 3, hv.2.2 rfl, Nat.le_refl _, hp, ?_, ?_⟩
    · rw [LX4_takeNumber_35, if_pos (by decide)]
    · rw [LX7_number_15, if_pos rfl, if_pos (by decide)]
  | succ d ih =>
    intro m1 m2 k v p e hk h1 h2 hp hv
    obtain ⟨m1, rfl⟩ : ∃ k, m1 = k + 1 := ⟨m1 - 1, by omega⟩
    obtain ⟨m2, rfl⟩ : ∃ k, m2 = k + 1 := ⟨m2 - 1, by omega⟩
    have hk3 : ¬ (3 : Int32) ≤ nI k := by rw [qn3]; exact nI_ge (by omega) (by omega)
    have hv99 : v ≤ 99 := by have := hv.1; have := hv.2.1; omega
    rcases dig_c (p := p) (w := 9) h (by omega) with ⟨j, hj, hpn, e1, e2⟩ | hx
    · obtain ⟨v', p', x1, x2, a1, a2, a3, a4, a5⟩ := ih m1 m2 (k + 1) (10 * v + j) (p + 1) (by omega) (by omega) (by omega) (by omega) (by omega) ⟨fun hh => by omega, fun hh => by have := hv.1 (by omega); omega, fun hh => by omega⟩
      refine ⟨v', p', x1, x2, a1, by omega, a3, ?_, ?_⟩
      · rw [LX4_takeNumber_35, if_neg hk3, here_s h hp, Option.bind_some, e1, qn48, if_neg (nI_nlt (by omega) (by omega)), Option.bind_some, qn57, if_neg (nI_nlt (by omega) (by omega)), Option.bind_some, pk_sub (by omega), show 48 + j - 48 = j by omega, qn10, pk_mul, nI_add, nI_1, nI_1]
        exact a4
      · have hdg : fX7_digit N 9 (nI n) (nI p) (-1) 240 mt = some (nI j, nI (p + 1), -1) := by
          rw [fX7_digit, now_s h hp, Option.bind_some, e2, fX7_isIn, if_neg (nI_pos (by omega)), qn9, if_neg (nI_nlt hj (by omega)), Option.bind_some, must1, Option.bind_some]
        rw [LX7_number_15, if_pos rfl, if_neg hk3, now_s h hp, Option.bind_some, e1, fX7_isIn, qn48, if_neg (nI_nlt (by omega) (by omega)), qn57, if_neg (nI_nlt (by omega) (by omega)), Option.bind_some, if_neg (by decide), hdg, Option.bind_some, qn10, pk_mul, nI_add, nI_1]
        exact a5
    · have hno : ¬ ∃ k, k ≤ 9 ∧ chr n xt p = nI (48 + k) := by
        rcases hx with ⟨-, hx⟩ | ⟨-, -, hx⟩ <;> exact hx
      have hcase : chr n xt p < 48 ∨ (¬ chr n xt p < 48 ∧ 57 < chr n xt p) := by
        rcases chr_c (p := p) h with ⟨hpn, c, h1, h2, ec⟩ | ⟨hpn, ec⟩
        · rw [ec]
          by_cases hc : c < 48
          · exact Or.inl (nI_lt (b := 48) hc (by omega))
          · refine Or.inr ⟨nI_nlt (b := 48) (by omega) (by omega), nI_lt (a := 57) ?_ (by omega)⟩
            refine Nat.not_le.mp fun hh => hno ⟨c - 48, by omega, ?_⟩
            rw [ec, show 48 + (c - 48) = c by omega]
        · rw [ec]; exact Or.inl (by decide)
      refine ⟨v, p, nI k, nI k, by omega, Nat.le_refl _, hp, ?_, ?_⟩
      · rw [LX4_takeNumber_35, if_neg hk3, here_s h hp, Option.bind_some]
        rcases hcase with hc | ⟨hc1, hc2⟩
        · rw [if_pos hc]
        · rw [if_neg hc1, Option.bind_some, if_pos hc2]
      · rw [LX7_number_15, if_pos rfl, if_neg hk3, now_s h hp, Option.bind_some, fX7_isIn]
        rcases hcase with hc | ⟨hc1, hc2⟩
        · rw [if_pos hc, Option.bind_some, if_pos rfl]
        · rw [if_neg hc1, if_pos hc2, Option.bind_some, if_pos rfl]
theorem num_s {N n p w : Nat} {xt mt : Nat → Int32} (hN : 1000 ≤ N) (h : TX n xt mt) (hp : p ≤ n) (hw : w ≤ 100) :
    (((LX4_takeNumber_35 N (nI n) 240 xt N 0 0 (nI p)).bind fun r4 => JX4_takeNumber_90 (nI p) (nI w) r4.1 r4.2.2) = some (-2, nI p) ∧ ∃ x q, q ≤ n ∧ fX7_number N (nI w) (nI n) (nI p) (-1) 240 mt = some (x, nI q, nI p)) ∨
    ∃ v p', v ≤ w ∧ p' ≤ n ∧ ((LX4_takeNumber_35 N (nI n) 240 xt N 0 0 (nI p)).bind fun r4 => JX4_takeNumber_90 (nI p) (nI w) r4.1 r4.2.2) = some (nI v, nI p') ∧ fX7_number N (nI w) (nI n) (nI p) (-1) 240 mt = some (nI v, nI p', -1) := by
  have hn := h.1
  obtain ⟨M, hM⟩ : ∃ M, N = M + 1 := ⟨N - 1, by omega⟩
  rcases dig_c (p := p) (w := 9) h (by omega) with ⟨j, hj, hpn, e1, e2⟩ | hx
  · obtain ⟨v', p', x1, x2, a1, a2, a3, a4, a5⟩ := digits_s (N := N) h 2 M N 1 j (p + 1) (by omega) (by omega) (by omega) (by omega) (by omega) ⟨fun _ => hj, fun hh => by omega, fun hh => by omega⟩
    have c1 : LX4_takeNumber_35 N (nI n) 240 xt N 0 0 (nI p) = some (nI v', x1, nI p') := by
      have : LX4_takeNumber_35 N (nI n) 240 xt (M + 1) 0 0 (nI p) = some (nI v', x1, nI p') := by
        rw [LX4_takeNumber_35, if_neg (by decide), here_s h hp, Option.bind_some, e1, qn48, if_neg (nI_nlt (by omega) (by omega)), Option.bind_some, qn57, if_neg (nI_nlt (by omega) (by omega)), Option.bind_some, pk_sub (by omega), show 48 + j - 48 = j by omega, show (10 : Int32) * 0 + nI j = nI j from Int32.zero_add _, nI_1]
        exact a4
      rw [← hM] at this
      exact this
    have hdg : fX7_digit N 9 (nI n) (nI p) (-1) 240 mt = some (nI j, nI (p + 1), -1) := by
      rw [fX7_digit, now_s h hp, Option.bind_some, e2, fX7_isIn, if_neg (nI_pos (by omega)), qn9, if_neg (nI_nlt hj (by omega)), Option.bind_some, must1, Option.bind_some]
    have hne : ¬ nI p' = nI p := by rw [nI_eq (by omega) (by omega)]; omega
    by_cases hv : v' ≤ w
    · refine Or.inr ⟨v', p', hv, a3, ?_, ?_⟩
      · rw [c1, Option.bind_some, JX4_takeNumber_90, if_neg hne, if_pos (nI_le hv (by omega))]
      · rw [fX7_number, hdg, Option.bind_some, show LX7_number_15 N (nI n) 240 mt N (nI j) 1 (nI (p + 1)) (-1) = _ from a5, Option.bind_some, JX7_number_61, if_pos rfl, if_pos (nI_le hv (by omega))]
    · refine Or.inl ⟨?_, nI v', p', a3, ?_⟩
      · rw [c1, Option.bind_some, JX4_takeNumber_90, if_neg hne, if_neg (nI_ge (by omega) (by omega))]
      · rw [fX7_number, hdg, Option.bind_some, show LX7_number_15 N (nI n) 240 mt N (nI j) 1 (nI (p + 1)) (-1) = _ from a5, Option.bind_some, JX7_number_61, if_pos rfl, if_neg (nI_ge (by omega) (by omega))]
  · have hno : ¬ ∃ k, k ≤ 9 ∧ chr n xt p = nI (48 + k) := by
      rcases hx with ⟨-, hx⟩ | ⟨-, -, hx⟩ <;> exact hx
    have hcase : chr n xt p < 48 ∨ (¬ chr n xt p < 48 ∧ 57 < chr n xt p) := by
      rcases chr_c (p := p) h with ⟨hpn, c, h1, h2, ec⟩ | ⟨hpn, ec⟩
      · rw [ec]
        by_cases hc : c < 48
        · exact Or.inl (nI_lt (b := 48) hc (by omega))
        · refine Or.inr ⟨nI_nlt (b := 48) (by omega) (by omega), nI_lt (a := 57) ?_ (by omega)⟩
          refine Nat.not_le.mp fun hh => hno ⟨c - 48, by omega, ?_⟩
          rw [ec, show 48 + (c - 48) = c by omega]
      · rw [ec]; exact Or.inl (by decide)
    have c1 : LX4_takeNumber_35 N (nI n) 240 xt N 0 0 (nI p) = some (0, 0, nI p) := by
      have : LX4_takeNumber_35 N (nI n) 240 xt (M + 1) 0 0 (nI p) = some (0, 0, nI p) := by
        rw [LX4_takeNumber_35, if_neg (by decide), here_s h hp, Option.bind_some]
        rcases hcase with hc | ⟨hc1, hc2⟩
        · rw [if_pos hc]
        · rw [if_neg hc1, Option.bind_some, if_pos hc2]
      rw [← hM] at this
      exact this
    have hdg : fX7_digit N 9 (nI n) (nI p) (-1) 240 mt = some (chr n xt p - 48, nI p, nI p) := by
      rw [fX7_digit, now_s h hp, Option.bind_some, fX7_isIn]
      rcases hx with ⟨hx, -⟩ | ⟨hx1, hx2, -⟩
      · rw [if_pos hx, Option.bind_some, must0 (by omega), Option.bind_some]
      · rw [if_neg hx1, qn9, if_pos (Int32.not_le.mp hx2), Option.bind_some, must0 (by omega), Option.bind_some]
    have hnf : ¬ nI p = -1 := nI_nm1 (by omega)
    have h15 : LX7_number_15 N (nI n) 240 mt N (chr n xt p - 48) 1 (nI p) (nI p) = some (chr n xt p - 48, 1, nI p, nI p) := by
      have : LX7_number_15 N (nI n) 240 mt (M + 1) (chr n xt p - 48) 1 (nI p) (nI p) = some (chr n xt p - 48, 1, nI p, nI p) := by rw [LX7_number_15, if_neg hnf]
      rw [← hM] at this
      exact this
    refine Or.inl ⟨?_, chr n xt p - 48, p, hp, ?_⟩
    · rw [c1, Option.bind_some, JX4_takeNumber_90, if_pos rfl]
    · rw [fX7_number, hdg, Option.bind_some, h15, Option.bind_some, JX7_number_61, if_neg hnf]
