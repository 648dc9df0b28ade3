/-! read(): a move, a text. -/
theorem told_ne {t : Int32} {b : Nat} (h : Told t b) (hb : b ≤ 1000) : ¬ t = -2 := by
  rcases h with rfl | ⟨j, hj, rfl⟩
  · decide
  · intro e
    have h1 := congrArg Int32.toInt e
    rw [nI_toInt (by omega)] at h1
    have : (-2 : Int32).toInt = -2 := rfl
    omega
theorem f106_end {N n a S m L p : Nat} {xt mt dr : Nat → Int32} (h : TX n xt mt) (hp : p ≤ n) (h1 : 1 ≤ L) (hL : L ≤ 3) (hc : chr n xt p = 59) (hm : 1 ≤ m) :
    LX7_statement_106 N (nI n) 240 mt (nI a) 160 (nI S) m (nI L - 1) (nI p) dr (-1) = some (nI L - 1, nI p, dr, -1) := by
  obtain ⟨m, rfl⟩ : ∃ k, m = k + 1 := ⟨m - 1, by omega⟩
  rw [LX7_statement_106, if_pos rfl, if_neg (xl_m1 h1 hL), now_s h hp, Option.bind_some, if_pos hc]
theorem move_s {N S n a p : Nat} {xt mt ls dg xs ys zs dr : Nat → Int32} (hN : 1000 ≤ N) (h : TX n xt mt) (h2 : 2 ≤ S) (h20 : S ≤ 20) (ha : a < 32) (hp : p < n) (hc : chr n xt p = 71) :
    StP S n a ls dg xs ys zs dr (fX4_takeMove N (nI S) (nI n) (nI p) (nI a) 240 xt 32 ls 32 dg 32 xs 32 ys 32 zs) (fX7_statement N (nI a) (nI S) (nI n) (nI p) (-1) 240 mt 160 dr) := by
  have hn := h.1
  obtain ⟨d0, c1, c2, c3⟩ := s28 (N := N) (dr := dr) hN ha
  have h5 : (5 : Int32) * nI a = nI (5 * a) := pk_mul 5 a
  have href : fX7_statement N (nI a) (nI S) (nI n) (nI p) (-1) 240 mt 160 dr = ((fX7_digit N 1 (nI n) (nI (p + 1)) (-1) 240 mt).bind fun r7 => (fX7_spaces N (nI n) r7.2.1 r7.2.2 240 mt).bind fun r8 => (LX7_statement_106 N (nI n) 240 mt (nI a) 160 (nI S) N (-1) r8 (upd d0 (5 * a) r7.1) r7.2.2).bind fun r9 => JX7_statement_206 N (nI n) 240 mt r9.2.1 r9.2.2.1 r9.2.2.2) := by
    rw [fX7_statement, now_s h (by omega), Option.bind_some, hc, if_neg (by decide), if_pos rfl, JX7_statement_18, JX7_statement_23, must1, Option.bind_some, c1, Option.bind_some, if_neg (by decide), h5, nI_clamp (by omega)]
    congr 1
    funext r7
    rw [if_neg (nI_in'n (n := 160) (by omega) (by omega))]
  rcases digit_s (N := N) (p := p + 1) (w := 1) h (by omega) (by omega) with ⟨k, hk, hpk, e1, e2⟩ | ⟨e1, d, e2⟩
  · have e1' : fX4_takeDigit N 1 (nI n) (nI (p + 1)) 240 xt = some (nI k, nI (p + 1 + 1)) := e1
    have e2' : fX7_digit N 1 (nI n) (nI (p + 1)) (-1) 240 mt = some (nI k, nI (p + 1 + 1), -1) := e2
    have hkn : ¬ nI k = -2 := told_ne (b := 2) (Or.inr ⟨k, by omega, rfl⟩) (by omega)
    obtain ⟨p0, b1, b2, b3, b4, b5⟩ := skip_s (N := N) hN h (p := p + 1 + 1) (by omega)
    have hS1 : nI S - 1 = nI (lim S 0) := pk_sub (a := S) (b := 1) (by omega)
    have r0 : Rel N n xt 0 0 (p + 1 + 1) p0 := ⟨b4, b2, b3, Nat.le_refl _, fun i h1 h2 => by omega⟩
    have hd0 : ∀ j, j ≤ 2 → upd d0 (5 * a) (nI k) (5 * a + 1 + j) = -1 := fun j hj => by rw [pk_un (by omega), Nat.add_assoc]; exact c2 (1 + j) (by omega) (by omega)
    have hst : LX7_statement_106 N (nI n) 240 mt (nI a) 160 (nI S) N (-1) (nI p0) (upd d0 (5 * a) (nI k)) (-1) = LX7_statement_106 N (nI n) 240 mt (nI a) 160 (nI S) N (nI 0 - 1) (nI p0) (upd d0 (5 * a) (nI k)) (-1) := rfl
    have href2 : fX7_statement N (nI a) (nI S) (nI n) (nI p) (-1) 240 mt 160 dr = ((LX7_statement_106 N (nI n) 240 mt (nI a) 160 (nI S) N (nI 0 - 1) (nI p0) (upd d0 (5 * a) (nI k)) (-1)).bind fun r9 => JX7_statement_206 N (nI n) 240 mt r9.2.1 r9.2.2.1 r9.2.2.2) := by
      rw [href, e2', Option.bind_some, b5, Option.bind_some, hst]
    rcases axis (S := S) (mt := mt) (m := N) (k := 10) hN h h2 h20 ha (j := 0) (by omega) r0 (by omega) (by omega) (hd0 0 (by omega)) with ⟨f, x, q', g1, g2, g3, g4⟩ | ⟨t0, q0, p1, L1, dr1, m1, g1, g2, g3, g4, g5, g6, g7, g8, g9⟩
    · have g3' : fX4_takeNumber N 88 (nI S - 1) (nI n) (nI (p + 1 + 1)) 240 xt = some (-2, nI f) := by rw [hS1]; exact g3
      refine Or.inl ⟨f, q', upd d0 (5 * a) (nI k), g1, g2, ?_, ?_⟩
      · rw [fX4_takeMove, nI_1, e1', Option.bind_some, if_neg hkn, g3', Option.bind_some, if_pos rfl]
      · rw [href2, g4, Option.bind_some]
        exact end_f h g2 (nI_nm1 (by omega))
    · have g3' : fX4_takeNumber N 88 (nI S - 1) (nI n) (nI (p + 1 + 1)) 240 xt = some (t0, nI q0) := by rw [hS1]; exact g3
      have hne0 := told_ne g2 (by rw [lim]; split <;> omega)
      rcases axis (S := S) (mt := mt) (dr := dr1) (m := m1) (k := 8) hN h h2 h20 ha (j := 1) (by omega) g4 (by omega) (by omega) (by rw [g9 _ (by omega)]; exact hd0 1 (by omega)) with ⟨f, x, q', i1, i2, i3, i4⟩ | ⟨t1, q1, p2, L2, dr2, m2, i1, i2, i3, i4, i5, i6, i7, i8, i9⟩
      · have i3' : fX4_takeNumber N 89 (nI S - 1) (nI n) (nI q0) 240 xt = some (-2, nI f) := by rw [hS1]; exact i3
        refine Or.inl ⟨f, q', dr1, i1, i2, ?_, ?_⟩
        · rw [fX4_takeMove, nI_1, e1', Option.bind_some, if_neg hkn, g3', Option.bind_some, if_neg hne0, i3', Option.bind_some, if_pos rfl]
        · rw [href2, g7, i4, Option.bind_some]
          exact end_f h i2 (nI_nm1 (by omega))
      · have i3' : fX4_takeNumber N 89 (nI S - 1) (nI n) (nI q0) 240 xt = some (t1, nI q1) := by rw [hS1]; exact i3
        have hne1 := told_ne i2 (by rw [lim]; split <;> omega)
        rcases axis (S := S) (mt := mt) (dr := dr2) (m := m2) (k := 6) hN h h2 h20 ha (j := 2) (by omega) i4 (by omega) (by omega) (by rw [i9 _ (by omega), g9 _ (by omega)]; exact hd0 2 (by omega)) with ⟨f, x, q', j1, j2, j3, j4⟩ | ⟨t2, q2, p3, L3, dr3, m3, j1, j2, j3, j4, j5, j6, j7, j8, j9⟩
        · have j3' : fX4_takeNumber N 90 100 (nI n) (nI q1) 240 xt = some (-2, nI f) := j3
          refine Or.inl ⟨f, q', dr2, j1, j2, ?_, ?_⟩
          · rw [fX4_takeMove, nI_1, e1', Option.bind_some, if_neg hkn, g3', Option.bind_some, if_neg hne0, i3', Option.bind_some, if_neg hne1, j3', Option.bind_some, if_pos rfl]
          · rw [href2, g7, i7, j4, Option.bind_some]
            exact end_f h j2 (nI_nm1 (by omega))
        · have j3' : fX4_takeNumber N 90 100 (nI n) (nI q1) 240 xt = some (t2, nI q2) := j3
          have hne2 := told_ne j2 (by rw [lim]; split <;> omega)
          obtain ⟨s1, s2, s3, s4, s5⟩ := j4
          have hcl : fX4_takeMove N (nI S) (nI n) (nI p) (nI a) 240 xt 32 ls 32 dg 32 xs 32 ys 32 zs = JX4_takeMove_109 N (nI n) (t2, nI q2) 240 xt (nI a) ls dg xs ys zs (nI k, nI (p + 1 + 1)) (t0, nI q0) (t1, nI q1) 32 32 32 32 32 (if L3 = 0 then 1 else 0) := by
            rw [fX4_takeMove, nI_1, e1', Option.bind_some, if_neg hkn, g3', Option.bind_some, if_neg hne0, i3', Option.bind_some, if_neg hne1, j3', Option.bind_some, if_neg hne2]
            by_cases z0 : t0 = -1
            · rw [if_pos z0]
              by_cases z1 : t1 = -1
              · rw [if_pos z1]
                by_cases z2 : t2 = -1
                · rw [if_pos z2, if_pos (j6.mpr ⟨i6.mpr ⟨g6.mpr ⟨rfl, z0⟩, z1⟩, z2⟩)]
                · rw [if_neg z2, JX4_takeMove_108, if_neg (fun hh => z2 (j6.mp hh).2)]
              · rw [if_neg z1, JX4_takeMove_108, if_neg (fun hh => z1 (i6.mp (j6.mp hh).1).2)]
            · rw [if_neg z0, JX4_takeMove_108, if_neg (fun hh => z0 (g6.mp (i6.mp (j6.mp hh).1).1).2)]
          have hL3 : L3 ≤ 3 := s4
          by_cases hz : L3 = 0
          · have hq : q2 = p3 := j5 (j6.mp hz).2
            refine Or.inl ⟨p3, p3, dr3, s2, s2, ?_, ?_⟩
            · rw [hcl, if_pos hz, JX4_takeMove_109, if_neg (by decide), hq]
            · rw [href2, g7, i7, j7, f106_fail hN h s2 hL3 (Or.inl hz) (fun i k1 k2 => s5 i k1 (by omega)) (by omega), Option.bind_some]
              exact end_f h s2 (nI_nm1 (by omega))
          · by_cases h59 : chr n xt p3 = 59
            · have hp'n : p3 < n := chr_lt (c := 59) h59 (by omega)
              refine Or.inr ⟨p3 + 1, upd ls a 71, upd dg a (nI k), upd xs a t0, upd ys a t1, upd zs a t2, dr3, by omega, ?_, ?_, fun b hb => ⟨pk_un (by omega), pk_un (by omega), pk_un (by omega), pk_un (by omega), pk_un (by omega)⟩, fun i hi => ?_, ?_⟩
              · rw [hcl, if_neg hz, JX4_takeMove_109, if_pos rfl, (end_s (N := N) h s1 s2).1 h59, Option.bind_some, if_neg (show ¬ (1 : Int32) = 0 by decide), add_s ha, Option.bind_some, nc71]
              · rw [href2, g7, i7, j7, f106_end h s2 (by omega) hL3 h59 (by omega), Option.bind_some]
                exact (e206 (N := N) h s2).1 h59
              · rw [j9 i (by omega), i9 i (by omega), g9 i (by omega), pk_un (by omega), c3 i (by omega)]
              · refine Or.inr ⟨by rw [pk_us]; decide, ?_, ?_, ?_, ?_, ?_, ?_, ?_, ?_⟩
                · rw [pk_us, j9 _ (by omega), i9 _ (by omega), g9 _ (by omega), pk_us]
                · rw [pk_us]
                  obtain rfl | rfl : k = 0 ∨ k = 1 := by omega
                  · exact Or.inl rfl
                  · exact Or.inr rfl
                · rw [pk_us, j9 _ (by omega), i9 _ (by omega)]; exact g8.symm
                · rw [pk_us, j9 _ (by omega)]; exact i8.symm
                · rw [pk_us]; exact j8.symm
                · rw [pk_us]
                  have : lim S 0 + 1 = S := by rw [lim, if_neg (by decide)]; omega
                  rw [this] at g2; exact g2
                · rw [pk_us]
                  have : lim S 1 + 1 = S := by rw [lim, if_neg (by decide)]; omega
                  rw [this] at i2; exact i2
                · rw [pk_us]; exact j2
            · refine Or.inl ⟨p3, p3, dr3, s2, s2, ?_, ?_⟩
              · rw [hcl, if_neg hz, JX4_takeMove_109, if_pos rfl, (end_s (N := N) h s1 s2).2 h59, Option.bind_some, if_pos rfl]
              · rw [href2, g7, i7, j7, f106_fail hN h s2 hL3 (Or.inr h59) (fun i k1 k2 => s5 i k1 (by omega)) (by omega), Option.bind_some]
                exact end_f h s2 (nI_nm1 (by omega))
  · have e1' : fX4_takeDigit N 1 (nI n) (nI (p + 1)) 240 xt = some (-2, nI (p + 1)) := e1
    have e2' : fX7_digit N 1 (nI n) (nI (p + 1)) (-1) 240 mt = some (d, nI (p + 1), nI (p + 1)) := e2
    have hnf : ¬ nI (p + 1) = -1 := nI_nm1 (by omega)
    refine Or.inl ⟨p + 1, p + 1, upd d0 (5 * a) d, by omega, by omega, ?_, ?_⟩
    · rw [fX4_takeMove, nI_1, e1', Option.bind_some, if_pos rfl]
    · rw [href, e2', Option.bind_some, spaces_f hN hnf, Option.bind_some, f106_out (by omega) hnf, Option.bind_some]
      exact end_f h (by omega) hnf
theorem stm_s {N S n a p : Nat} {xt mt ls dg xs ys zs dr : Nat → Int32} (hN : 1000 ≤ N) (h : TX n xt mt) (h2 : 2 ≤ S) (h20 : S ≤ 20) (ha : a < 32) (hp : p ≤ n) :
    StP S n a ls dg xs ys zs dr (fX4_takeStatement N (nI S) (nI n) (nI p) (nI a) 240 xt 32 ls 32 dg 32 xs 32 ys 32 zs) ((fX7_spaces N (nI n) (nI p) (-1) 240 mt).bind fun r3 => fX7_statement N (nI a) (nI S) (nI n) r3 (-1) 240 mt 160 dr) := by
  have hn := h.1
  obtain ⟨p1, b1, b2, b3, b4, b5⟩ := skip_s (N := N) hN h hp
  rw [b5, Option.bind_some]
  by_cases h71 : chr n xt p1 = 71
  · have hp1 : p1 < n := chr_lt (c := 71) h71 (by omega)
    rcases move_s (S := S) (ls := ls) (dg := dg) (xs := xs) (ys := ys) (zs := zs) (dr := dr) hN h h2 h20 ha hp1 h71 with ⟨f, q, dr', e1, e2, e3, e4⟩ | ⟨p', ls', dg', xs', ys', zs', dr', e1, e2, e3⟩
    · refine Or.inl ⟨f, q, dr', e1, e2, ?_, e4⟩
      rw [fX4_takeStatement, b4, Option.bind_some, here_s h b2, Option.bind_some, if_pos h71, e3, Option.bind_some, if_pos (Or.inl rfl)]
    · refine Or.inr ⟨p', ls', dg', xs', ys', zs', dr', e1, ?_, e3⟩
      rw [fX4_takeStatement, b4, Option.bind_some, here_s h b2, Option.bind_some, if_pos h71, e2, Option.bind_some, if_pos (Or.inr rfl)]
  · by_cases h84 : chr n xt p1 = 84
    · have hp1 : p1 < n := chr_lt (c := 84) h84 (by omega)
      rcases change_s (S := S) (ls := ls) (dg := dg) (xs := xs) (ys := ys) (zs := zs) (dr := dr) hN h ha hp1 h84 with ⟨f, q, dr', e1, e2, e3, e4⟩ | ⟨p', ls', dg', xs', ys', zs', dr', e1, e2, e3⟩
      · refine Or.inl ⟨f, q, dr', e1, e2, ?_, e4⟩
        rw [fX4_takeStatement, b4, Option.bind_some, here_s h b2, Option.bind_some, if_neg h71, if_pos h84, e3, Option.bind_some, if_pos (Or.inl rfl)]
      · refine Or.inr ⟨p', ls', dg', xs', ys', zs', dr', e1, ?_, e3⟩
        rw [fX4_takeStatement, b4, Option.bind_some, here_s h b2, Option.bind_some, if_neg h71, if_pos h84, e2, Option.bind_some, if_pos (Or.inr rfl)]
    · obtain ⟨d0, c1, -, -⟩ := s28 (N := N) (dr := dr) hN ha
      have hnf : ¬ nI p1 = -1 := nI_nm1 (by omega)
      obtain ⟨d, hd⟩ := digit_f (N := N) (w := 1) h b2 hnf
      have h5 : (5 : Int32) * nI a = nI (5 * a) := pk_mul 5 a
      refine Or.inl ⟨p1, p1, upd d0 (5 * a) d, b2, b2, ?_, ?_⟩
      · rw [fX4_takeStatement, b4, Option.bind_some, here_s h b2, Option.bind_some, if_neg h71, if_neg h84]
      · rw [fX7_statement, now_s h b2, Option.bind_some, if_neg h84, if_neg h71, JX7_statement_23, must0 (by omega), Option.bind_some, c1, Option.bind_some, if_neg h84, hd, Option.bind_some, h5, if_neg (nI_in (by omega) (by omega)), spaces_f hN hnf, Option.bind_some, f106_out (by omega) hnf, Option.bind_some, nI_clamp (by omega)]
        exact end_f h b2 hnf
theorem PR_ext {S a : Nat} {ls dg xs ys zs dr ls' dg' xs' ys' zs' dr' : Nat → Int32} (ha : a < 32) (h : PR S a ls dg xs ys zs dr) (h1 : ∀ b, b < a → ls' b = ls b ∧ dg' b = dg b ∧ xs' b = xs b ∧ ys' b = ys b ∧ zs' b = zs b) (h2 : ∀ i, i < 5 * a → dr' i = dr i) (h3 : Stm S (ls' a) (dg' a) (xs' a) (ys' a) (zs' a) dr' a) : PR S (a + 1) ls' dg' xs' ys' zs' dr' := by
  refine ⟨by omega, fun b hb => ?_⟩
  by_cases e : b = a
  · rw [e]; exact h3
  · obtain ⟨e1, e2, e3, e4, e5⟩ := h1 b (by omega)
    have hs := h.2 b (by omega)
    rw [Stm] at hs ⊢
    rw [e1, e2, e3, e4, e5, h2 _ (by omega), h2 _ (by omega), h2 _ (by omega), h2 _ (by omega), h2 _ (by omega)]
    exact hs
theorem PR_cp {S a : Nat} {ls dg xs ys zs dr dr' : Nat → Int32} (h : PR S a ls dg xs ys zs dr) (h2 : ∀ i, i < 160 → dr' i = dr i) : PR S a ls dg xs ys zs dr' := by
  refine ⟨h.1, fun b hb => ?_⟩
  have hs := h.2 b hb
  have := h.1
  rw [Stm] at hs ⊢
  rw [h2 _ (by omega), h2 _ (by omega), h2 _ (by omega), h2 _ (by omega), h2 _ (by omega)]
  exact hs
/-- how the two readers stand at the end of their loops -/
def PaP (S n : Nat) (cl : Option (Int32 × Int32 × Int32 × Int32 × (Nat → Int32) × (Nat → Int32) × (Nat → Int32) × (Nat → Int32) × (Nat → Int32))) (rf : Option (Int32 × Int32 × (Nat → Int32) × Int32)) : Prop :=
  ∃ (x x1 c : Int32) (p' q : Nat) (ls' dg' xs' ys' zs' dr' : Nat → Int32), p' ≤ n ∧ q ≤ n ∧
    ((cl = some (0, x, nI p', c, dg', ls', xs', ys', zs') ∧ rf = some (x1, nI q, dr', nI p')) ∨
     ∃ b, 1 ≤ b ∧ b ≤ 32 ∧ cl = some (1, x, nI p', nI b, dg', ls', xs', ys', zs') ∧ rf = some (nI b, nI p', dr', -1) ∧ PR S b ls' dg' xs' ys' zs' dr')
theorem parse_sync {N S n : Nat} {xt mt : Nat → Int32} (hN : 1000 ≤ N) (h : TX n xt mt) (h2 : 2 ≤ S) (h20 : S ≤ 20) : ∀ (d m1 m2 a p : Nat) (ls dg xs ys zs dr : Nat → Int32), a + d = 32 → 1 ≤ a → d < m1 → d < m2 → p ≤ n → PR S a ls dg xs ys zs dr →
    PaP S n (LX4_parse_17 (nI n) N (nI S) 240 xt 32 32 32 32 32 m1 1 (nI a) (nI p) (nI a) dg ls xs ys zs) (LX7_read_17 N (nI n) 240 mt (nI S) 160 m2 (nI a) (nI p) dr (-1)) := by
  have hn := h.1
  intro d
  induction d with
  | zero =>
    intro m1 m2 a p ls dg xs ys zs dr e ha hm1 hm2 hp hP
    obtain ⟨m1, rfl⟩ : ∃ k, m1 = k + 1 := ⟨m1 - 1, by omega⟩
    obtain ⟨m2, rfl⟩ : ∃ k, m2 = k + 1 := ⟨m2 - 1, by omega⟩
    refine ⟨nI a, 0, 0, p, p, ls, dg, xs, ys, zs, dr, hp, hp, Or.inr ⟨a, ha, by omega, ?_, ?_, hP⟩⟩
    · rw [LX4_parse_17, qn32, if_pos (nI_le (by omega) (by omega))]
    · rw [LX7_read_17, if_pos rfl, if_neg (nI_ne0 (by omega) (by omega)), JX7_read_40, qn32, if_pos (show nI 32 ≤ nI a from nI_le (by omega) (by omega)), ite_self]
  | succ d ih =>
    intro m1 m2 a p ls dg xs ys zs dr e ha hm1 hm2 hp hP
    obtain ⟨m1, rfl⟩ : ∃ k, m1 = k + 1 := ⟨m1 - 1, by omega⟩
    obtain ⟨m2, rfl⟩ : ∃ k, m2 = k + 1 := ⟨m2 - 1, by omega⟩
    by_cases hpn : n ≤ p
    · refine ⟨nI a, 0, 0, p, p, ls, dg, xs, ys, zs, dr, hp, hp, Or.inr ⟨a, ha, by omega, ?_, ?_, hP⟩⟩
      · rw [LX4_parse_17, qn32, if_neg (nI_ge (by omega) (by omega)), if_neg (by decide), if_pos (nI_le hpn (by omega))]
      · rw [LX7_read_17, if_pos rfl, if_neg (nI_ne0 (by omega) (by omega)), if_pos (nI_le hpn (by omega))]
    · rcases stm_s (N := N) (S := S) (ls := ls) (dg := dg) (xs := xs) (ys := ys) (zs := zs) (dr := dr) hN h h2 h20 (show a < 32 by omega) hp with ⟨f, q, dr', e1, e2, e3, e4⟩ | ⟨p', ls', dg', xs', ys', zs', dr', e1, e2, e3, e4, e5, e6⟩
      · refine ⟨nI (a + 1), nI (a + 1), nI a, f, q, ls, dg, xs, ys, zs, dr', e1, e2, Or.inl ⟨?_, ?_⟩⟩
        · obtain ⟨m1, rfl⟩ : ∃ k, m1 = k + 1 := ⟨m1 - 1, by omega⟩
          rw [LX4_parse_17, qn32, if_neg (nI_ge (by omega) (by omega)), if_neg (by decide), if_neg (nI_ge (by omega) (by omega)), e3, Option.bind_some, nI_1, LX4_parse_17]
          rw [if_pos (show (0 : Int32) = 0 from rfl), ite_self]
        · obtain ⟨m2, rfl⟩ : ∃ k, m2 = k + 1 := ⟨m2 - 1, by omega⟩
          have e4' : ((fX7_spaces N (nI n) (nI p) (-1) 240 mt).bind fun r3 => (fX7_statement N (nI a) (nI S) (nI n) r3 (-1) 240 mt 160 dr).bind fun r4 => LX7_read_17 N (nI n) 240 mt (nI S) 160 (m2 + 1) (nI a + 1) r4.1 r4.2.2 r4.2.1) = LX7_read_17 N (nI n) 240 mt (nI S) 160 (m2 + 1) (nI a + 1) (nI q) dr' (nI f) := by
            rw [← Option.bind_assoc, e4, Option.bind_some]
          rw [LX7_read_17, if_pos rfl, if_neg (nI_ne0 (by omega) (by omega)), if_neg (nI_ge (by omega) (by omega)), JX7_read_40, qn32, if_neg (nI_ge (by omega) (by omega)), e4', LX7_read_17, if_neg (nI_nm1 (by omega)), nI_1]
      · have hX := ih m1 m2 (a + 1) p' ls' dg' xs' ys' zs' dr' (by omega) (by omega) (by omega) (by omega) e1 (PR_ext (by omega) hP e4 e5 e6)
        have k1 : LX4_parse_17 (nI n) N (nI S) 240 xt 32 32 32 32 32 (m1 + 1) 1 (nI a) (nI p) (nI a) dg ls xs ys zs = LX4_parse_17 (nI n) N (nI S) 240 xt 32 32 32 32 32 m1 1 (nI (a + 1)) (nI p') (nI (a + 1)) dg' ls' xs' ys' zs' := by
          rw [LX4_parse_17, qn32, if_neg (nI_ge (by omega) (by omega)), if_neg (by decide), if_neg (nI_ge (by omega) (by omega)), e2, Option.bind_some, nI_1]
        have k2 : LX7_read_17 N (nI n) 240 mt (nI S) 160 (m2 + 1) (nI a) (nI p) dr (-1) = LX7_read_17 N (nI n) 240 mt (nI S) 160 m2 (nI (a + 1)) (nI p') dr' (-1) := by
          have e3' : ((fX7_spaces N (nI n) (nI p) (-1) 240 mt).bind fun r3 => (fX7_statement N (nI a) (nI S) (nI n) r3 (-1) 240 mt 160 dr).bind fun r4 => LX7_read_17 N (nI n) 240 mt (nI S) 160 m2 (nI a + 1) r4.1 r4.2.2 r4.2.1) = LX7_read_17 N (nI n) 240 mt (nI S) 160 m2 (nI a + 1) (nI p') dr' (-1) := by
            rw [← Option.bind_assoc, e3, Option.bind_some]
          rw [LX7_read_17, if_pos rfl, if_neg (nI_ne0 (by omega) (by omega)), if_neg (nI_ge (by omega) (by omega)), JX7_read_40, qn32, if_neg (nI_ge (by omega) (by omega)), e3', nI_1]
        rw [k1, k2]
        exact hX
