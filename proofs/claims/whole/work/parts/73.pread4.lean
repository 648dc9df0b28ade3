/-! read(). -/
theorem pa_all {N S n : Nat} {xt mt ls dg xs ys zs dr : Nat → Int32} (hN : 1000 ≤ N) (h : TX n xt mt) (h2 : 2 ≤ S) (h20 : S ≤ 20) :
    PaP S n ((fX4_takeStatement N (nI S) (nI n) 0 0 240 xt 32 ls 32 dg 32 xs 32 ys 32 zs).bind fun r2 => LX4_parse_17 (nI n) N (nI S) 240 xt 32 32 32 32 32 N r2.1 1 r2.2.1 r2.2.2.1 r2.2.2.2.2.1 r2.2.2.2.1 r2.2.2.2.2.2.1 r2.2.2.2.2.2.2.1 r2.2.2.2.2.2.2.2) (LX7_read_17 N (nI n) 240 mt (nI S) 160 N 0 0 dr (-1)) := by
  have hn := h.1
  obtain ⟨M, hM⟩ : ∃ M, N = M + 2 := ⟨N - 2, by omega⟩
  have hrf : LX7_read_17 N (nI n) 240 mt (nI S) 160 N 0 0 dr (-1) = ((fX7_spaces N (nI n) (nI 0) (-1) 240 mt).bind fun r3 => (fX7_statement N (nI 0) (nI S) (nI n) r3 (-1) 240 mt 160 dr).bind fun r4 => LX7_read_17 N (nI n) 240 mt (nI S) 160 (M + 1) (nI 1) r4.1 r4.2.2 r4.2.1) := by
    have : LX7_read_17 N (nI n) 240 mt (nI S) 160 (M + 2) 0 0 dr (-1) = ((fX7_spaces N (nI n) (nI 0) (-1) 240 mt).bind fun r3 => (fX7_statement N (nI 0) (nI S) (nI n) r3 (-1) 240 mt 160 dr).bind fun r4 => LX7_read_17 N (nI n) 240 mt (nI S) 160 (M + 1) (nI 1) r4.1 r4.2.2 r4.2.1) := by
      rw [LX7_read_17, if_pos rfl, if_pos rfl, JX7_read_40, if_neg (by decide)]
      rfl
    rw [← this, ← hM]
  rcases stm_s (N := N) (S := S) (a := 0) (p := 0) (ls := ls) (dg := dg) (xs := xs) (ys := ys) (zs := zs) (dr := dr) hN h h2 h20 (by omega) (Nat.zero_le _) with ⟨f, q, dr', e1, e2, e3, e4⟩ | ⟨p', ls', dg', xs', ys', zs', dr', e1, e2, e3, e4, e5, e6⟩
  · have e3' : fX4_takeStatement N (nI S) (nI n) 0 0 240 xt 32 ls 32 dg 32 xs 32 ys 32 zs = some (0, nI f, nI 0, ls, dg, xs, ys, zs) := e3
    have k1 : LX4_parse_17 (nI n) N (nI S) 240 xt 32 32 32 32 32 N 0 1 (nI f) (nI 0) dg ls xs ys zs = some (0, 1, nI f, nI 0, dg, ls, xs, ys, zs) := by
      have : LX4_parse_17 (nI n) N (nI S) 240 xt 32 32 32 32 32 (M + 2) 0 1 (nI f) (nI 0) dg ls xs ys zs = some (0, 1, nI f, nI 0, dg, ls, xs, ys, zs) := by
        rw [LX4_parse_17, if_pos (show (0 : Int32) = 0 from rfl), ite_self]
      rw [← hM] at this
      exact this
    refine ⟨1, nI 1, nI 0, f, q, ls, dg, xs, ys, zs, dr', e1, e2, Or.inl ⟨?_, ?_⟩⟩
    · rw [e3', Option.bind_some]
      exact k1
    · rw [hrf, ← Option.bind_assoc, e4, Option.bind_some, LX7_read_17, if_neg (nI_nm1 (by omega))]
  · have e2' : fX4_takeStatement N (nI S) (nI n) 0 0 240 xt 32 ls 32 dg 32 xs 32 ys 32 zs = some (1, nI p', nI (0 + 1), ls', dg', xs', ys', zs') := e2
    have hX := parse_sync (N := N) (S := S) hN h h2 h20 31 N (M + 1) 1 p' ls' dg' xs' ys' zs' dr' (by omega) (by omega) (by omega) (by omega) e1 ⟨by omega, fun b hb => by rw [show b = 0 by omega]; exact e6⟩
    rw [e2', Option.bind_some, hrf, ← Option.bind_assoc, e3, Option.bind_some]
    exact hX
theorem cp110 {N : Nat} {dr pr : Nat → Int32} (hN : 1000 ≤ N) : ∃ pr', LX7_read_110 160 160 dr N 0 pr = some (nI 160, pr') ∧ ∀ i, i < 160 → pr' i = dr i := by
  obtain ⟨s, h1, h3⟩ := loopI (fun m k (s : Nat → Int32) => LX7_read_110 160 160 dr m (nI k) s) 160 (fun k s => ∀ i, i < k → s i = dr i) (fun s => (nI 160, s))
    (fun m k s hk hP => by
      refine ⟨upd s k (dr k), fun i hi => ?_, ?_⟩
      · by_cases e : i = k
        · rw [e]; exact pk_us
        · rw [pk_un e]; exact hP i (by omega)
      · show LX7_read_110 160 160 dr (m + 1) (nI k) s = _
        have hi := nI_in hk (show 160 < 2 ^ 31 by omega)
        rw [LX7_read_110, qn160, if_neg (nI_ge hk (by omega)), if_neg hi, if_neg hi, nI_clamp (by omega), nI_1])
    (fun m s _ => by
      show LX7_read_110 160 160 dr (m + 1) (nI 160) s = _
      rw [LX7_read_110, qn160, if_pos (nI_le (Nat.le_refl _) (by omega))]) 0 N pr (by omega) (by omega) (fun i hi => absurd hi (by omega))
  exact ⟨s, h3, h1⟩
theorem m1_lt {p : Nat} (hp : p < 1000) : (-1 : Int32) - nI p < 0 := by
  have e : (-1 : Int32).toInt = -1 := rfl
  rw [Int32.lt_iff_toInt_lt, Int32.toInt_sub, nI_toInt (by omega), e, i32b (by omega) (by omega), Int32.toInt_zero]
  omega
theorem pu_read {S N n P D : Nat} {pl dc th at0 ft mst mhp : Int32} {xt mt ls dg xs ys zs draft prog : Nat → Int32} (hN : 1000 ≤ N) (h : TX n xt mt) (h2 : 2 ≤ S) (h20 : S ≤ 20) :
    ∃ (v : Int32) (P' D' : Nat) (pl' c' : Int32) (ls' dg' xs' ys' zs' : Nat → Int32) (at' ft' mst' mhp' : Int32) (draft' prog' : Nat → Int32), fX6_read N P D (nI S) (nI n) pl dc 240 xt 32 ls 32 dg 32 xs 32 ys 32 zs = some (v, P', D', 0, pl', c', ls', dg', xs', ys', zs') ∧
      fX7_read N th (nI S) (nI n) at0 ft mst mhp 240 mt 160 draft 160 prog = some (v, 0, 0, at', ft', mst', mhp', draft', prog') ∧
      ((P' = P ∧ D' = D ∧ mst' = mst ∧ mhp' = mhp ∧ prog' = prog) ∨ (P' = D ∧ D' = P ∧ ∃ b, 1 ≤ b ∧ c' = nI b ∧ mst' = nI b ∧ mhp' = 1 ∧ PR S b ls' dg' xs' ys' zs' prog')) := by
  have hn := h.1
  obtain ⟨x, x1, c, p', q, ls', dg', xs', ys', zs', dr', hp', hq, hor⟩ := pa_all (N := N) (S := S) (ls := ls) (dg := dg) (xs := xs) (ys := ys) (zs := zs) (dr := draft) hN h h2 h20
  have hb : ∀ (cl : Option (Int32 × Int32 × Int32 × Int32 × (Nat → Int32) × (Nat → Int32) × (Nat → Int32) × (Nat → Int32) × (Nat → Int32))), ((fX4_takeStatement N (nI S) (nI n) 0 0 240 xt 32 ls 32 dg 32 xs 32 ys 32 zs).bind fun r2 => LX4_parse_17 (nI n) N (nI S) 240 xt 32 32 32 32 32 N r2.1 1 r2.2.1 r2.2.2.1 r2.2.2.2.2.1 r2.2.2.2.1 r2.2.2.2.2.2.1 r2.2.2.2.2.2.2.1 r2.2.2.2.2.2.2.2) = cl → fX4_parse N (nI S) (nI n) pl dc 240 xt 32 ls 32 dg 32 xs 32 ys 32 zs = cl.bind fun r3 => JX4_parse_50 (nI n) r3.1 r3.2.2.1 r3.2.2.2.1 r3.2.2.2.2.1 r3.2.2.2.2.2.1 r3.2.2.2.2.2.2.1 r3.2.2.2.2.2.2.2.1 r3.2.2.2.2.2.2.2.2 := by
    rintro cl rfl
    rw [fX4_parse, fX3_clear, Option.bind_some, Option.bind_assoc]
  rcases hor with ⟨e1, e2⟩ | ⟨b, hb1, hb2, e1, e2, hPR⟩
  · refine ⟨-1 - nI p', P, D, nI p', c, ls', dg', xs', ys', zs', nI q, nI p', mst, mhp, dr', prog, ?_, ?_, Or.inl ⟨rfl, rfl, rfl, rfl, rfl⟩⟩
    · rw [fX6_read, hb _ e1, Option.bind_some, JX4_parse_50, if_pos rfl, JX4_parse_69, Option.bind_some, if_pos (m1_lt (by omega))]
    · rw [fX7_read, e2, Option.bind_some, JX7_read_61, if_neg (nI_nm1 (by omega)), JX7_read_88, if_neg (nI_nm1 (by omega))]
  · by_cases hpn : p' < n
    · refine ⟨-1 - nI p', P, D, nI p', nI b, ls', dg', xs', ys', zs', nI p', nI p', mst, mhp, dr', prog, ?_, ?_, Or.inl ⟨rfl, rfl, rfl, rfl, rfl⟩⟩
      · rw [fX6_read, hb _ e1, Option.bind_some, JX4_parse_50, if_neg (show ¬ (1 : Int32) = 0 by decide), if_pos (nI_lt hpn (by omega)), JX4_parse_69, Option.bind_some, if_pos (m1_lt (by omega))]
      · rw [fX7_read, e2, Option.bind_some, JX7_read_61, if_pos rfl, if_neg (nI_ge hpn (by omega)), JX7_read_88, if_neg (nI_nm1 (by omega))]
    · obtain ⟨pr', c1, c2⟩ := cp110 (N := N) (dr := dr') (pr := prog) hN
      refine ⟨nI b, D, P, nI p', nI b, ls', dg', xs', ys', zs', nI p', -1, nI b, 1, dr', pr', ?_, ?_, Or.inr ⟨rfl, rfl, b, hb1, rfl, rfl, rfl, PR_cp hPR c2⟩⟩
      · rw [fX6_read, hb _ e1, Option.bind_some, JX4_parse_50, if_neg (show ¬ (1 : Int32) = 0 by decide), if_neg (nI_nlt (by omega) (by omega)), Option.bind_some, if_neg (nI_pos (by omega))]
      · rw [fX7_read, e2, Option.bind_some, JX7_read_61, if_pos rfl, if_pos (nI_le (by omega) (by omega)), JX7_read_88, if_pos rfl, c1, Option.bind_some]
