/-! A move, a program, run(). -/
def mxd (f g : Nat → Nat) : Nat → Nat
  | 0 => 0
  | k + 1 => if nd (g k) (f k) ≤ mxd f g k then mxd f g k else nd (g k) (f k)
theorem mxd_le {f g : Nat → Nat} {b : Nat} : ∀ k, (∀ j, j < k → nd (g j) (f j) ≤ b) → mxd f g k ≤ b := by
  intro k
  induction k with
  | zero => intro _; exact Nat.zero_le _
  | succ k ih =>
    intro h
    rw [mxd]
    split
    · exact ih (fun j hj => h j (by omega))
    · exact h k (by omega)
/-- what is told of an axis, from f: g is where it goes -/
def Ax (w : Int32) (f g b : Nat) : Prop := f ≤ b ∧ g ≤ b ∧ ((w = -1 ∧ g = f) ∨ w = nI g)
theorem nI_nm1 {g : Nat} (h : g < 1000) : ¬ nI g = -1 := fun e => by
  have h1 := congrArg Int32.toInt e
  rw [nI_toInt (by omega)] at h1
  have : (-1 : Int32).toInt = -1 := rfl
  omega
theorem diff_spec {N f g b : Nat} {w : Int32} (hb : b ≤ 100) (h : Ax w f g b) : fX1_difference N (nI f) w = some (nI g - nI f) := by
  obtain ⟨h1, h2, ⟨rfl, rfl⟩ | rfl⟩ := h
  · rw [fX1_difference, if_pos rfl, Int32.sub_self]
  · rw [fX1_difference, if_neg (nI_nm1 (by omega))]
theorem go59 {rec : Int32 → Int32 → (Nat → Int32) → (Nat → Int32) → Option (Int32 × Int32 × (Nat → Int32) × (Nat → Int32))} {k f g m : Nat} {gap k7 : Nat → Int32} (hk : k < 3) (hf : f ≤ 100) (hg : g ≤ 100) (hm : m ≤ 100) :
    JX7_go_59 rec (nI k) 3 gap (nI m) k7 (nI g - nI f) = rec (nI (if nd g f ≤ m then m else nd g f)) (nI (k + 1)) k7 (upd gap k (nI g - nI f)) := by
  have hi := nI_in hk (show 3 < 2 ^ 31 by omega)
  rw [JX7_go_59, if_neg hi, if_neg hi, nI_clamp (by omega), pk_us, nI_1]
  have hi' : ¬ (nI k < 0 ∨ 3 ≤ k) := nI_in'n hk (by omega)
  by_cases h : f ≤ g
  · have e : nd g f = g - f := by rw [nd]; omega
    rw [e, pk_sub h, if_pos (nI_pos' (by omega)), if_neg hi']
    by_cases hh : g - f ≤ m
    · rw [if_pos (nI_le hh (by omega)), if_pos hh]
    · rw [if_neg (nI_ge (by omega) (by omega)), if_neg hh]
  · have e : nd g f = f - g := by rw [nd]; omega
    rw [e, if_neg (Int32.not_le.mpr (pk_sneg (by omega) (by omega))), if_neg hi', Int32.neg_sub, pk_sub (a := f) (b := g) (by omega)]
    by_cases hh : f - g ≤ m
    · rw [if_pos (nI_le hh (by omega)), if_pos hh]
    · rw [if_neg (nI_ge (by omega) (by omega)), if_neg hh]
theorem nd_le {a b c : Nat} (ha : a ≤ c) (hb : b ≤ c) : nd a b ≤ c := by rw [nd]; omega
theorem go4_spec {N a : Nat} {f g : Nat → Nat} {prog wh bg gp : Nat → Int32} (hN : 1000 ≤ N) (ha : a < 32) (hw : ∀ j, j < 3 → wh j = nI (f j)) (hp : ∀ j, j < 3 → Ax (prog (5 * a + 1 + j)) (f j) (g j) 100) :
    ∃ bg' gp', LX7_go_4 3 3 (nI a) 160 prog 3 wh N 0 0 bg gp = some (nI (mxd f g 3), nI 3, bg', gp') ∧ (∀ j, j < 3 → bg' j = nI (f j)) ∧ ∀ j, j < 3 → gp' j = nI (g j) - nI (f j) := by
  obtain ⟨s, ⟨h1, h2⟩, h3⟩ := loopI (fun m k (s : (Nat → Int32) × (Nat → Int32)) => LX7_go_4 3 3 (nI a) 160 prog 3 wh m (nI (mxd f g k)) (nI k) s.1 s.2) 3
    (fun k s => (∀ j, j < k → s.1 j = nI (f j)) ∧ ∀ j, j < k → s.2 j = nI (g j) - nI (f j)) (fun s => (nI (mxd f g 3), nI 3, s.1, s.2))
    (fun m k s hk ⟨hP1, hP2⟩ => by
      obtain ⟨b1, b2, b3⟩ := hp k hk
      have hml : mxd f g k ≤ 100 := mxd_le k (fun j hj => by obtain ⟨c1, c2, -⟩ := hp j (by omega); exact nd_le c2 c1)
      refine ⟨(upd s.1 k (nI (f k)), upd s.2 k (nI (g k) - nI (f k))), ⟨fun j hj => ?_, fun j hj => ?_⟩, ?_⟩
      · show upd s.1 k (nI (f k)) j = _
        by_cases e : j = k
        · subst e; exact pk_us
        · rw [pk_un e]; exact hP1 j (by omega)
      · show upd s.2 k (nI (g k) - nI (f k)) j = _
        by_cases e : j = k
        · subst e; exact pk_us
        · rw [pk_un e]; exact hP2 j (by omega)
      · show LX7_go_4 3 3 (nI a) 160 prog 3 wh (m + 1) (nI (mxd f g k)) (nI k) s.1 s.2 = LX7_go_4 3 3 (nI a) 160 prog 3 wh m (nI (mxd f g (k + 1))) (nI (k + 1)) (upd s.1 k (nI (f k))) (upd s.2 k (nI (g k) - nI (f k)))
        have hi := nI_in hk (show 3 < 2 ^ 31 by omega)
        rw [LX7_go_4, qn3, if_neg (nI_ge hk (by omega)), if_neg hi, if_neg hi, qn5, pk_mul, nI_1, nI_add, if_neg (nI_in (by omega) (by omega)), nI_clamp (by omega), nI_clamp (by omega), hw k hk, mxd]
        rcases b3 with ⟨b3, b4⟩ | b3
        · have e0 : (0 : Int32) = nI (g k) - nI (f k) := by rw [b4, Int32.sub_self]
          rw [if_pos b3, e0, go59 hk b1 b2 hml]
        · rw [if_neg (by rw [b3]; exact nI_nm1 (by omega)), if_neg (nI_in'n hk (by omega)), b3, go59 hk b1 b2 hml])
    (fun m s _ => by
      show LX7_go_4 3 3 (nI a) 160 prog 3 wh (m + 1) (nI (mxd f g 3)) (nI 3) s.1 s.2 = _
      rw [LX7_go_4, qn3, if_pos (nI_le (Nat.le_refl _) (by omega))]) 0 N (bg, gp) (by omega) (by omega) ⟨fun j hj => absurd hj (by omega), fun j hj => absurd hj (by omega)⟩
  exact ⟨s.1, s.2, h3, h1, h2⟩
theorem go124_spec {N i n : Nat} {f g : Nat → Nat} {wh bg gp : Nat → Int32} {u : Int32} (hN : 1000 ≤ N) (hi : 1 ≤ i) (hin : i ≤ n) (hn : n ≤ 100) (hf : ∀ j, j < 3 → f j ≤ 100) (hg : ∀ j, j < 3 → g j ≤ 100) (hbg : ∀ j, j < 3 → bg j = nI (f j)) (hgp : ∀ j, j < 3 → gp j = nI (g j) - nI (f j)) :
    ∃ wh', LX7_go_124 3 3 N (nI n, u, bg, gp) (nI i) 3 N 0 wh = some (nI 3, wh') ∧ ∀ j, j < 3 → wh' j = nI (posN (f j) (g j) i n) := by
  obtain ⟨s, h1, h3⟩ := loopI (fun m k (s : Nat → Int32) => LX7_go_124 3 3 N (nI n, u, bg, gp) (nI i) 3 m (nI k) s) 3 (fun k s => ∀ j, j < k → s j = nI (posN (f j) (g j) i n)) (fun s => (nI 3, s))
    (fun m k s hk hP => by
      obtain ⟨-, w, b1, b2⟩ := along_spec (N := N) hi hin hn (hf k hk) (hg k hk)
      refine ⟨upd s k (nI (posN (f k) (g k) i n)), fun j hj => ?_, ?_⟩
      · by_cases e : j = k
        · subst e; exact pk_us
        · rw [pk_un e]; exact hP j (by omega)
      · show LX7_go_124 3 3 N (nI n, u, bg, gp) (nI i) 3 (m + 1) (nI k) s = _
        have hi := nI_in hk (show 3 < 2 ^ 31 by omega)
        rw [LX7_go_124, qn3, if_neg (nI_ge hk (by omega)), if_neg hi, if_neg hi, nI_clamp (by omega)]
        show ((fX7_floor N (2 * gp k * nI i + nI n) (2 * nI n)).bind fun r5 => if nI k < 0 ∨ 3 ≤ k then none else LX7_go_124 3 3 N (nI n, u, bg, gp) (nI i) 3 m (nI k + 1) (upd s k (bg k + r5))) = _
        rw [hgp k hk, b1, Option.bind_some, if_neg (nI_in'n hk (by omega)), hbg k hk, b2, nI_1])
    (fun m s _ => by
      show LX7_go_124 3 3 N (nI n, u, bg, gp) (nI i) 3 (m + 1) (nI 3) s = _
      rw [LX7_go_124, qn3, if_pos (nI_le (Nat.le_refl _) (by omega))]) 0 N wh (by omega) (by omega) (fun j hj => absurd hj (by omega))
  exact ⟨s, h3, h1⟩
theorem travel_sync {S N r t n a : Nat} {f g : Nat → Nat} {mr mf mk xk hw prog bg gp : Nat → Int32} {u a4 fd : Int32} (hN : 1000 ≤ N) (h2 : 2 ≤ S) (h20 : S ≤ 20) (ht : t < 4) (hr : mr t = nI r) (hr6 : r ≤ 6) (hR : ToolR r hw) (hfd : fd = mf t) (ha : a < 32) (hp0 : prog (5 * a) = a4) (h4 : a4 = 0 ∨ a4 = 1) (hn : n ≤ 100)
    (hf : f 0 < S ∧ f 1 < S ∧ f 2 ≤ 100) (hg : g 0 < S ∧ g 1 < S ∧ g 2 ≤ 100) (hK : RA S xk mk) (hbg : ∀ j, j < 3 → bg j = nI (f j)) (hgp : ∀ j, j < 3 → gp j = nI (g j) - nI (f j)) :
    ∀ (d m1 m2 i : Nat) (p : Nat → Nat) (ds : Int32) (dd xh mh ab wh : Nat → Int32), i + d = n + 1 → 1 ≤ i → d < m1 → d < m2 → (p 0 < S ∧ p 1 < S ∧ p 2 ≤ 100) → (∀ j, j < 3 → wh j = nI (p j)) → RA S xh mh → NN S mh →
    ∃ (k : Int32) (p' : Nat → Nat) (ds' : Int32) (dd' xh' : Nat → Int32) (x4 : Int32) (ab' mh' wh' : Nat → Int32), LX1_travel_41 (nI n) N (nI (f 0)) (nI (g 0) - nI (f 0)) (nI (f 1)) (nI (g 1) - nI (f 1)) (nI (f 2)) (nI (g 2) - nI (f 2)) (nI S) (nI (S * S)) (nI r) 7 hw (S * S) a4 (S * S) fd (S * S) xk m1 (nI i) (ab 5) (ab 0) (nI (p 0)) (nI (p 1)) (nI (p 2)) dd ds xh = some (k, ab' 0, nI (p' 0), nI (p' 1), nI (p' 2), ab' 5, ds', dd', xh') ∧
      LX7_go_111 (nI n, u, bg, gp) 3 3 N 3 (nI a) 160 prog (nI S) (nI t) 4 mr 400 400 mk 6 4 mf m2 0 (nI i) ab mh wh = some (k, x4, ab', mh', wh') ∧ (p' 0 < S ∧ p' 1 < S ∧ p' 2 ≤ 100) ∧ (∀ j, j < 3 → wh' j = nI (p' j)) ∧ RA S xh' mh' ∧ NN S mh' := by
  have fb : ∀ j, j < 3 → f j ≤ 100 := fun j hj => by obtain rfl | rfl | rfl : j = 0 ∨ j = 1 ∨ j = 2 := by omega
                                                     all_goals omega
  have gb : ∀ j, j < 3 → g j ≤ 100 := fun j hj => by obtain rfl | rfl | rfl : j = 0 ∨ j = 1 ∨ j = 2 := by omega
                                                     all_goals omega
  have w0 : ¬ ((0 : Int32) < 0 ∨ 3 ≤ (0 : Int32).toNatClampNeg) := by decide
  have w1 : ¬ ((1 : Int32) < 0 ∨ 3 ≤ (1 : Int32).toNatClampNeg) := by decide
  have w2 : ¬ ((2 : Int32) < 0 ∨ 3 ≤ (2 : Int32).toNatClampNeg) := by decide
  intro d
  induction d with
  | zero =>
    intro m1 m2 i p ds dd xh mh ab wh e hi hm1 hm2 hp hwh hH hG
    obtain ⟨m1, rfl⟩ : ∃ k, m1 = k + 1 := ⟨m1 - 1, by omega⟩
    obtain ⟨m2, rfl⟩ : ∃ k, m2 = k + 1 := ⟨m2 - 1, by omega⟩
    refine ⟨0, p, ds, dd, xh, nI i, ab, mh, wh, ?_, ?_, hp, hwh, hH, hG⟩
    · rw [LX1_travel_41, if_pos (nI_lt (by omega) (by omega))]
    · rw [LX7_go_111, if_pos (nI_lt (by omega) (by omega))]
  | succ d ih =>
    intro m1 m2 i p ds dd xh mh ab wh e hi hm1 hm2 hp hwh hH hG
    obtain ⟨m1, rfl⟩ : ∃ k, m1 = k + 1 := ⟨m1 - 1, by omega⟩
    obtain ⟨m2, rfl⟩ : ∃ k, m2 = k + 1 := ⟨m2 - 1, by omega⟩
    have q0 := posN_le (b := S - 1) (f := f 0) (g := g 0) hi (show i ≤ n by omega) (by omega) (by omega)
    have q1 := posN_le (b := S - 1) (f := f 1) (g := g 1) hi (show i ≤ n by omega) (by omega) (by omega)
    have q2 := posN_le (b := 100) (f := f 2) (g := g 2) hi (show i ≤ n by omega) (by omega) (by omega)
    have l0 := (along_spec (N := N) hi (show i ≤ n by omega) hn (fb 0 (by omega)) (gb 0 (by omega))).1
    have l1 := (along_spec (N := N) hi (show i ≤ n by omega) hn (fb 1 (by omega)) (gb 1 (by omega))).1
    have l2 := (along_spec (N := N) hi (show i ≤ n by omega) hn (fb 2 (by omega)) (gb 2 (by omega))).1
    obtain ⟨wh', v1, v2⟩ := go124_spec (N := N) (u := u) (wh := wh) hN hi (show i ≤ n by omega) hn fb gb hbg hgp
    have v20 := v2 0 (by omega)
    have v21 := v2 1 (by omega)
    have v22 := v2 2 (by omega)
    obtain ⟨dd', k1, k2⟩ := layDisc_spec (N := N) (d := dd) (o := ds) (cx := posN (f 0) (g 0) i n) (cy := posN (f 1) (g 1) i n) h2 h20 hN hr6 hR (by omega) (by omega)
    have href : ∀ (k : Int32) (mh' ab' : Nat → Int32), fX7_step N a4 (nI (posN (f 0) (g 0) i n)) (nI (posN (f 1) (g 1) i n)) (nI (posN (f 2) (g 2) i n)) (nI S) (nI t) 4 mr 400 mh 400 mk 6 ab 4 mf = some (k, mh', ab') →
        LX7_go_111 (nI n, u, bg, gp) 3 3 N 3 (nI a) 160 prog (nI S) (nI t) 4 mr 400 400 mk 6 4 mf (m2 + 1) 0 (nI i) ab mh wh = LX7_go_111 (nI n, u, bg, gp) 3 3 N 3 (nI a) 160 prog (nI S) (nI t) 4 mr 400 400 mk 6 4 mf m2 k (nI (i + 1)) ab' mh' wh' := by
      intro k mh' ab' hst
      rw [LX7_go_111, if_neg (nI_nlt (by omega) (by omega)), if_pos rfl, v1, Option.bind_some, qn5, pk_mul, if_neg (nI_in (by omega) (by omega)), nI_clamp (by omega), hp0, if_neg w0, if_neg w1, if_neg w2]
      show ((fX7_step N a4 (wh' 0) (wh' 1) (wh' 2) (nI S) (nI t) 4 mr 400 mh 400 mk 6 ab 4 mf).bind fun r4 => LX7_go_111 (nI n, u, bg, gp) 3 3 N 3 (nI a) 160 prog (nI S) (nI t) 4 mr 400 400 mk 6 4 mf m2 r4.1 (nI i + 1) r4.2.2 r4.2.1 wh') = _
      rw [v20, v21, v22, hst, Option.bind_some, nI_1]
    have hout : ∀ (k : Int32) (mh' ab' : Nat → Int32), ¬ k = 0 → LX7_go_111 (nI n, u, bg, gp) 3 3 N 3 (nI a) 160 prog (nI S) (nI t) 4 mr 400 400 mk 6 4 mf m2 k (nI (i + 1)) ab' mh' wh' = some (k, nI (i + 1), ab', mh', wh') := by
      intro k mh' ab' hk
      obtain ⟨m2, rfl⟩ : ∃ k, m2 = k + 1 := ⟨m2 - 1, by omega⟩
      rw [LX7_go_111, if_neg hk, ite_self]
    have hwp : ∀ j, j < 3 → wh' j = nI ((fun j => posN (f j) (g j) i n) j) := v2
    have hpp : (fun j => posN (f j) (g j) i n) 0 < S ∧ (fun j => posN (f j) (g j) i n) 1 < S ∧ (fun j => posN (f j) (g j) i n) 2 ≤ 100 := ⟨by show posN (f 0) (g 0) i n < S; omega, by show posN (f 1) (g 1) i n < S; omega, q2⟩
    rcases h4 with rfl | rfl
    · obtain ⟨k, T, ab', mh', s1, s2, s3, s4, s5, s6⟩ := step_pass (N := N) (mf := mf) (mk := mk) (ab := ab) (z := nI (posN (f 2) (g 2) i n)) hN h2 h20 ht hr hr6 (show posN (f 0) (g 0) i n < S by omega) (show posN (f 1) (g 1) i n < S by omega) hH hG k2
      rw [href k mh' ab' s2]
      by_cases hk : k = 0
      · subst hk
        obtain ⟨k', p', ds', dd'', xh', x4, ab'', mh'', wh'', i1, i2, i3⟩ := ih m1 m2 (i + 1) (fun j => posN (f j) (g j) i n) (nI (cnt (pX S r (posN (f 0) (g 0) i n) (posN (f 1) (g 1) i n)) (S * S))) dd' xh mh' ab' wh' (by omega) (by omega) (by omega) (by omega) hpp hwp s5 s6
        refine ⟨k', p', ds', dd'', xh', x4, ab'', mh'', wh'', ?_, i2, i3⟩
        rw [LX1_travel_41, if_neg (nI_nlt (by omega) (by omega)), l0, Option.bind_some, l1, Option.bind_some, l2, Option.bind_some, k1, Option.bind_some, if_pos rfl, s1, Option.bind_some, if_pos rfl, nI_1, ← s3, ← s4]
        exact i1
      · refine ⟨k, fun j => posN (f j) (g j) i n, nI (cnt (pX S r (posN (f 0) (g 0) i n) (posN (f 1) (g 1) i n)) (S * S)), dd', xh, nI (i + 1), ab', mh', wh', ?_, hout k mh' ab' hk, hpp, hwp, s5, s6⟩
        rw [LX1_travel_41, if_neg (nI_nlt (by omega) (by omega)), l0, Option.bind_some, l1, Option.bind_some, l2, Option.bind_some, k1, Option.bind_some, if_pos rfl, s1, Option.bind_some, if_neg hk, s3, s4]
    · obtain ⟨k, T, C, ab', xh', mh', s1, s2, s3, s4, s5, s6⟩ := step_cut (N := N) (mf := mf) (mk := mk) (ab := ab) (z := nI (posN (f 2) (g 2) i n)) hN h2 h20 ht hr hr6 hfd (nI_pos' (by omega)) (show posN (f 0) (g 0) i n < S by omega) (show posN (f 1) (g 1) i n < S by omega) hH hG hK k2
      rw [href k mh' ab' s2]
      by_cases hk : k = 0
      · subst hk
        obtain ⟨k', p', ds', dd'', xh'', x4, ab'', mh'', wh'', i1, i2, i3⟩ := ih m1 m2 (i + 1) (fun j => posN (f j) (g j) i n) (nI (cnt (pX S r (posN (f 0) (g 0) i n) (posN (f 1) (g 1) i n)) (S * S))) dd' xh' mh' ab' wh' (by omega) (by omega) (by omega) (by omega) hpp hwp s5 s6
        refine ⟨k', p', ds', dd'', xh'', x4, ab'', mh'', wh'', ?_, i2, i3⟩
        rw [LX1_travel_41, if_neg (nI_nlt (by omega) (by omega)), l0, Option.bind_some, l1, Option.bind_some, l2, Option.bind_some, k1, Option.bind_some, if_neg (by decide), s1, Option.bind_some, if_pos rfl, nI_1, ← s3, ← s4]
        exact i1
      · refine ⟨k, fun j => posN (f j) (g j) i n, nI (cnt (pX S r (posN (f 0) (g 0) i n) (posN (f 1) (g 1) i n)) (S * S)), dd', xh', nI (i + 1), ab', mh', wh', ?_, hout k mh' ab' hk, hpp, hwp, s5, s6⟩
        rw [LX1_travel_41, if_neg (nI_nlt (by omega) (by omega)), l0, Option.bind_some, l1, Option.bind_some, l2, Option.bind_some, k1, Option.bind_some, if_neg (by decide), s1, Option.bind_some, if_neg hk, s3, s4]
theorem kmax {f g : Nat → Nat} (fb : ∀ j, j < 3 → f j ≤ 100) (gb : ∀ j, j < 3 → g j ≤ 100) :
    (if (if 0 ≤ nI (g 0) - nI (f 0) then nI (g 0) - nI (f 0) else 0 - (nI (g 0) - nI (f 0))) < (if (if 0 ≤ nI (g 1) - nI (f 1) then nI (g 1) - nI (f 1) else 0 - (nI (g 1) - nI (f 1))) < (if 0 ≤ nI (g 2) - nI (f 2) then nI (g 2) - nI (f 2) else 0 - (nI (g 2) - nI (f 2))) then (if 0 ≤ nI (g 2) - nI (f 2) then nI (g 2) - nI (f 2) else 0 - (nI (g 2) - nI (f 2))) else (if 0 ≤ nI (g 1) - nI (f 1) then nI (g 1) - nI (f 1) else 0 - (nI (g 1) - nI (f 1)))) then (if (if 0 ≤ nI (g 1) - nI (f 1) then nI (g 1) - nI (f 1) else 0 - (nI (g 1) - nI (f 1))) < (if 0 ≤ nI (g 2) - nI (f 2) then nI (g 2) - nI (f 2) else 0 - (nI (g 2) - nI (f 2))) then (if 0 ≤ nI (g 2) - nI (f 2) then nI (g 2) - nI (f 2) else 0 - (nI (g 2) - nI (f 2))) else (if 0 ≤ nI (g 1) - nI (f 1) then nI (g 1) - nI (f 1) else 0 - (nI (g 1) - nI (f 1)))) else (if 0 ≤ nI (g 0) - nI (f 0) then nI (g 0) - nI (f 0) else 0 - (nI (g 0) - nI (f 0)))) = nI (mxd f g 3) := by
  have a0 := fb 0 (by omega)
  have a1 := fb 1 (by omega)
  have a2 := fb 2 (by omega)
  have b0 := gb 0 (by omega)
  have b1 := gb 1 (by omega)
  have b2 := gb 2 (by omega)
  rw [nd_abs (by omega) (by omega), nd_abs (by omega) (by omega), nd_abs (by omega) (by omega), mxd, mxd, mxd, mxd]
  have c0 := nd_le b0 a0
  have c1 := nd_le b1 a1
  have c2 := nd_le b2 a2
  generalize nd (g 0) (f 0) = x at *
  generalize nd (g 1) (f 1) = y at *
  generalize nd (g 2) (f 2) = z at *
  by_cases h1 : y < z
  · rw [if_pos (nI_lt h1 (by omega))]
    by_cases h2 : x < z
    · rw [if_pos (nI_lt h2 (by omega))]
      congr 1
      repeat' split
      all_goals omega
    · rw [if_neg (nI_nlt (by omega) (by omega))]
      congr 1
      repeat' split
      all_goals omega
  · rw [if_neg (nI_nlt (by omega) (by omega))]
    by_cases h2 : x < y
    · rw [if_pos (nI_lt h2 (by omega))]
      congr 1
      repeat' split
      all_goals omega
    · rw [if_neg (nI_nlt (by omega) (by omega))]
      congr 1
      repeat' split
      all_goals omega
