/-! run(): statement by statement. -/
def Told (w : Int32) (b : Nat) : Prop := w = -1 ∨ ∃ j, j < b ∧ w = nI j
/-- a statement, as both sides keep it -/
def Stm (S : Nat) (l dg x y z : Int32) (prog : Nat → Int32) (a : Nat) : Prop :=
  (l = 84 ∧ prog (5 * a) = 2 ∧ dg = prog (5 * a + 4) ∧ ∃ t, t < 4 ∧ dg = nI t) ∨
  (¬ l = 84 ∧ dg = prog (5 * a) ∧ (dg = 0 ∨ dg = 1) ∧ x = prog (5 * a + 1) ∧ y = prog (5 * a + 2) ∧ z = prog (5 * a + 3) ∧ Told x S ∧ Told y S ∧ Told z 101)
def PR (S n : Nat) (ls dg xs ys zs prog : Nat → Int32) : Prop := n ≤ 32 ∧ ∀ a, a < n → Stm S (ls a) (dg a) (xs a) (ys a) (zs a) prog a
theorem told_ax {w : Int32} {b f : Nat} (h : Told w b) (hf : f < b) (hb : b ≤ 101) : ∃ g, g < b ∧ Ax w f g 100 := by
  rcases h with rfl | ⟨j, hj, rfl⟩
  · exact ⟨f, hf, by omega, by omega, Or.inl ⟨rfl, rfl⟩⟩
  · exact ⟨j, hj, by omega, by omega, Or.inr rfl⟩
theorem pu_go {S N r t a : Nat} {f : Nat → Nat} {mr mf mk mh xk xh xr xf ls dg xs ys zs prog bg gp wh ab dd : Nat → Int32} {hw : Nat → Nat → Int32} {ds : Int32} (hN : 1000 ≤ N) (h2 : 2 ≤ S) (h20 : S ≤ 20) (ht : t < 4) (hxr : xr t = nI r) (hr : mr t = nI r) (hr6 : r ≤ 6) (hR : ToolR r (hw t)) (hfd : xf t = mf t) (ha : a < 32)
    (hl : ¬ ls a = 84) (hd : dg a = prog (5 * a)) (h4 : dg a = 0 ∨ dg a = 1) (ex : xs a = prog (5 * a + 1)) (ey : ys a = prog (5 * a + 2)) (ez : zs a = prog (5 * a + 3)) (tx : Told (xs a) S) (ty : Told (ys a) S) (tz : Told (zs a) 101)
    (hf : f 0 < S ∧ f 1 < S ∧ f 2 ≤ 100) (hwh : ∀ j, j < 3 → wh j = nI (f j)) (hK : RA S xk mk) (hH : RA S xh mh) (hG : NN S mh) :
    ∃ (k : Int32) (p' : Nat → Nat) (ds' : Int32) (dd' xh' ab' mh' wh' bg' gp' : Nat → Int32), fX1_obey N (nI a) (ab 0) (nI (f 0)) (nI (f 1)) (nI (f 2)) (ab 5) (nI t) (nI S) (nI (S * S)) ds 32 ls 32 dg 32 xs 32 ys 32 zs xr xf 7 hw (S * S) dd (S * S) xk (S * S) xh = some (k, ab' 0, nI (p' 0), nI (p' 1), nI (p' 2), ab' 5, nI t, ds', dd', xh') ∧
      fX7_go N (nI a) (nI S) (nI t) 3 bg 3 wh 160 prog 3 gp 4 mr 400 mh 400 mk 6 ab 4 mf = some (k, bg', wh', gp', mh', ab') ∧ (p' 0 < S ∧ p' 1 < S ∧ p' 2 ≤ 100) ∧ (∀ j, j < 3 → wh' j = nI (p' j)) ∧ RA S xh' mh' ∧ NN S mh' := by
  obtain ⟨g0, c0, a0⟩ := told_ax tx hf.1 (by omega)
  obtain ⟨g1, c1, a1⟩ := told_ax ty hf.2.1 (by omega)
  obtain ⟨g2, c2, a2⟩ := told_ax tz (show f 2 < 101 by omega) (by omega)
  obtain ⟨g, e0, e1, e2⟩ : ∃ g : Nat → Nat, g 0 = g0 ∧ g 1 = g1 ∧ g 2 = g2 := ⟨fun j => if j = 0 then g0 else if j = 1 then g1 else g2, rfl, rfl, rfl⟩
  subst e0 e1 e2
  have fb : ∀ j, j < 3 → f j ≤ 100 := fun j hj => by obtain rfl | rfl | rfl : j = 0 ∨ j = 1 ∨ j = 2 := by omega
                                                     all_goals omega
  have gb : ∀ j, j < 3 → g j ≤ 100 := fun j hj => by obtain rfl | rfl | rfl : j = 0 ∨ j = 1 ∨ j = 2 := by omega
                                                     all_goals omega
  have hax : ∀ j, j < 3 → Ax (prog (5 * a + 1 + j)) (f j) (g j) 100 := fun j hj => by
    obtain rfl | rfl | rfl : j = 0 ∨ j = 1 ∨ j = 2 := by omega
    · rw [Nat.add_zero, ← ex]; exact a0
    · rw [Nat.add_assoc, ← ey]; exact a1
    · rw [Nat.add_assoc, ← ez]; exact a2
  obtain ⟨bg', gp', b1, b2, b3⟩ := go4_spec (N := N) (bg := bg) (gp := gp) hN ha hwh hax
  have hn : mxd f g 3 ≤ 100 := mxd_le 3 (fun j hj => nd_le (gb j hj) (fb j hj))
  have hi := nI_in ha (show 32 < 2 ^ 31 by omega)
  have hi' : ¬ (nI a < 0 ∨ 32 ≤ a) := nI_in'n ha (by omega)
  obtain ⟨k, p', ds', dd', xh', x4, ab', mh', wh', i1, i2, i3, i4, i5, i6⟩ := travel_sync (N := N) (n := mxd f g 3) (u := nI 3) (a4 := dg a) (fd := xf t) (prog := prog) (f := f) (g := g) (bg := bg') (gp := gp') (mk := mk) (xk := xk) hN h2 h20 ht hr hr6 hR hfd ha hd.symm h4 hn hf ⟨c0, c1, by omega⟩ hK b2 b3 (mxd f g 3) N N 1 f ds dd xh mh ab wh (by omega) (by omega) (by omega) (by omega) hf hwh hH hG
  refine ⟨k, p', ds', dd', xh', ab', mh', wh', bg', gp', ?_, ?_, i3, i4, i5, i6⟩
  · have htr : fX1_travel N (nI (g 0) - nI (f 0)) (nI (g 1) - nI (f 1)) (nI (g 2) - nI (f 2)) (dg a) (ab 0) (nI (f 0)) (nI (f 1)) (nI (f 2)) (ab 5) (nI S) (nI (S * S)) ds (nI r) (xf t) 7 (hw t) (S * S) dd (S * S) xk (S * S) xh = some (k, ab' 0, nI (p' 0), nI (p' 1), nI (p' 2), ab' 5, ds', dd', xh') := by
      rw [fX1_travel, kmax fb gb]
      exact i1
    rw [fX1_obey, if_neg hi, nI_clamp (by omega), if_neg hl, if_neg hi', diff_spec (Nat.le_refl _) a0, Option.bind_some, if_neg hi', diff_spec (Nat.le_refl _) a1, Option.bind_some, if_neg hi', diff_spec (Nat.le_refl _) a2, Option.bind_some, if_neg hi', nI_clamp (by omega), hxr]
    rcases h4 with h4 | h4
    · rw [h4] at htr ⊢
      rw [if_neg (by decide), if_neg (nI_in'n ht (by omega)), htr, Option.bind_some]
    · rw [h4] at htr ⊢
      rw [if_pos rfl, if_neg (nI_in'n ht (by omega)), htr, Option.bind_some]
  · rw [fX7_go, b1, Option.bind_some, show LX7_go_111 (nI (mxd f g 3), nI 3, bg', gp') 3 3 N 3 (nI a) 160 prog (nI S) (nI t) 4 mr 400 400 mk 6 4 mf N 0 1 ab mh wh = _ from i2, Option.bind_some]
theorem run_sync {S N n : Nat} {mr mf mk xk xr xf ls dg xs ys zs prog : Nat → Int32} {hw : Nat → Nat → Int32} (hN : 1000 ≤ N) (h2 : 2 ≤ S) (h20 : S ≤ 20) (hT : TL xr xf hw mr mf) (hP : PR S n ls dg xs ys zs prog) (hK : RA S xk mk) :
    ∀ (d m1 m2 a t : Nat) (p : Nat → Nat) (en ds : Int32) (dd xh mh ab bg gp wh : Nat → Int32), a + d = n → d < m1 → d < m2 → t < 4 → (p 0 < S ∧ p 1 < S ∧ p 2 ≤ 100) → (∀ j, j < 3 → wh j = nI (p j)) → RA S xh mh → NN S mh →
    ∃ (k : Int32) (p' : Nat → Nat) (e ds' held : Int32) (dd' xh' ab' mh' wh' bg' gp' : Nat → Int32) (tl : Int32), LX1_follow_12 (nI n) N (nI S) (nI (S * S)) 32 ls 32 dg 32 xs 32 ys 32 zs xr xf 7 hw (S * S) (S * S) xk (S * S) m1 (nI a) (ab 5) en (nI t) (ab 0) (nI (p 0)) (nI (p 1)) (nI (p 2)) dd ds xh = some (k, 1, ab' 0, e, nI (p' 0), nI (p' 1), nI (p' 2), ab' 5, held, ds', dd', xh') ∧
      LX7_run_75 (nI n) 160 prog 6 N (nI S) 3 3 3 4 mr 400 400 mk 4 mf m2 0 (nI a) ab bg gp mh (nI t) wh = some (k, e, ab', bg', gp', mh', tl, wh') ∧ (∀ j, j < 3 → wh' j = nI (p' j)) ∧ RA S xh' mh' ∧ NN S mh' := by
  obtain ⟨hn, hP⟩ := hP
  have c0 : ¬ ((0 : Int32) < 0 ∨ 6 ≤ (0 : Int32).toNatClampNeg) := by decide
  intro d
  induction d with
  | zero =>
    intro m1 m2 a t p en ds dd xh mh ab bg gp wh e hm1 hm2 ht hp hwh hH hG
    obtain ⟨m1, rfl⟩ : ∃ k, m1 = k + 1 := ⟨m1 - 1, by omega⟩
    obtain ⟨m2, rfl⟩ : ∃ k, m2 = k + 1 := ⟨m2 - 1, by omega⟩
    have : a = n := by omega
    subst this
    refine ⟨0, p, nI a, ds, nI t, dd, xh, ab, mh, wh, bg, gp, nI t, ?_, ?_, hwh, hH, hG⟩
    · rw [LX1_follow_12, if_pos (nI_le (Nat.le_refl _) (by omega))]
    · rw [LX7_run_75, if_pos (nI_le (Nat.le_refl _) (by omega))]
  | succ d ih =>
    intro m1 m2 a t p en ds dd xh mh ab bg gp wh e hm1 hm2 ht hp hwh hH hG
    obtain ⟨m1, rfl⟩ : ∃ k, m1 = k + 1 := ⟨m1 - 1, by omega⟩
    obtain ⟨m2, rfl⟩ : ∃ k, m2 = k + 1 := ⟨m2 - 1, by omega⟩
    have hi := nI_in (show a < 32 by omega) (show 32 < 2 ^ 31 by omega)
    have hi' : ¬ (nI a < 0 ∨ 32 ≤ a) := nI_in'n (by omega) (by omega)
    rcases hP a (by omega) with ⟨q1, q2, q3, t', ht', q4⟩ | ⟨q1, q2, q3, q4, q5, q6, q7, q8, q9⟩
    · have u0 : upd ab 0 (ab 0 + 10) 0 = ab 0 + 10 := pk_us
      have u5 : upd ab 0 (ab 0 + 10) 5 = ab 5 := pk_un (by decide)
      obtain ⟨k, p', e', ds', held, dd', xh', ab', mh', wh', bg', gp', tl, i1, i2, i3⟩ := ih m1 m2 (a + 1) t' p (nI a) ds dd xh mh (upd ab 0 (ab 0 + 10)) bg gp wh (by omega) (by omega) (by omega) ht' hp hwh hH hG
      refine ⟨k, p', e', ds', held, dd', xh', ab', mh', wh', bg', gp', tl, ?_, ?_, i3⟩
      · rw [LX1_follow_12, if_neg (nI_ge (by omega) (by omega)), fX1_obey, if_neg hi, nI_clamp (by omega), if_pos q1, if_neg hi', Option.bind_some, if_pos rfl, nI_1, q4, ← i1, u0, u5]
      · have h54 : nI (5 * a) + 4 = nI (5 * a + 4) := nI_add (5 * a) 4
        rw [LX7_run_75, if_neg (nI_ge (by omega) (by omega)), if_pos rfl, qn5, pk_mul, if_neg (nI_in (by omega) (by omega)), nI_clamp (by omega), if_pos q2, h54, if_neg (nI_in (by omega) (by omega)), if_neg c0, if_neg c0, if_pos rfl, nI_clamp (by omega), ← q3, q4, nI_1]
        exact i2
    · obtain ⟨r, hr6, hxr, hmr, hfd, hR⟩ := hT t ht
      obtain ⟨k, p', ds', dd', xh', ab', mh', wh', bg', gp', o1, o2, o3, o4, o5, o6⟩ := pu_go (N := N) (ab := ab) (dd := dd) (ds := ds) (bg := bg) (gp := gp) (f := p) (wh := wh) (ls := ls) (dg := dg) (xs := xs) (ys := ys) (zs := zs) (prog := prog) hN h2 h20 ht hxr hmr hr6 hR hfd (show a < 32 by omega) q1 q2 q3 q4 q5 q6 q7 q8 q9 hp hwh hK hH hG
      have hne : ¬ prog (5 * a) = 2 := by
        rw [← q2]
        rcases q3 with h | h <;> rw [h] <;> decide
      have href : LX7_run_75 (nI n) 160 prog 6 N (nI S) 3 3 3 4 mr 400 400 mk 4 mf (m2 + 1) 0 (nI a) ab bg gp mh (nI t) wh = if k = 0 then LX7_run_75 (nI n) 160 prog 6 N (nI S) 3 3 3 4 mr 400 400 mk 4 mf m2 k (nI (a + 1)) ab' bg' gp' mh' (nI t) wh' else LX7_run_75 (nI n) 160 prog 6 N (nI S) 3 3 3 4 mr 400 400 mk 4 mf m2 k (nI a) ab' bg' gp' mh' (nI t) wh' := by
        have h5 : (5 : Int32) * nI a = nI (5 * a) := pk_mul 5 a
        rw [LX7_run_75, if_neg (nI_ge (by omega) (by omega)), if_pos rfl, h5, if_neg (nI_in (by omega) (by omega)), nI_clamp (by omega), if_neg hne, o2, Option.bind_some, nI_1]
      by_cases hk : k = 0
      · subst hk
        obtain ⟨k, p'', e', ds'', held, dd'', xh'', ab'', mh'', wh'', bg'', gp'', tl, i1, i2, i3⟩ := ih m1 m2 (a + 1) t p' (nI a) ds' dd' xh' mh' ab' bg' gp' wh' (by omega) (by omega) (by omega) ht o3 o4 o5 o6
        refine ⟨k, p'', e', ds'', held, dd'', xh'', ab'', mh'', wh'', bg'', gp'', tl, ?_, ?_, i3⟩
        · rw [LX1_follow_12, if_neg (nI_ge (by omega) (by omega)), o1, Option.bind_some, if_pos rfl, nI_1]
          exact i1
        · rw [href, if_pos rfl]
          exact i2
      · refine ⟨k, p', nI a, ds', nI t, dd', xh', ab', mh', wh', bg', gp', nI t, ?_, ?_, o4, o5, o6⟩
        · rw [LX1_follow_12, if_neg (nI_ge (by omega) (by omega)), o1, Option.bind_some, if_neg hk]
        · rw [href, if_neg hk]
          obtain ⟨m2, rfl⟩ : ∃ k, m2 = k + 1 := ⟨m2 - 1, by omega⟩
          rw [LX7_run_75, if_neg hk, ite_self]
theorem pu_run {S N n : Nat} {th mst mhp mhr mtl hr ti en x y z cu he ds : Int32} {mr mf mk mh xk xh xr xf ls dg xs ys zs prog bg gp wh ab dd : Nat → Int32} {hw : Nat → Nat → Int32} {out : Nat → Int64} (hN : 1000 ≤ N) (h2 : 2 ≤ S) (h20 : S ≤ 20) (hT : TL xr xf hw mr mf) (hP : PR S n ls dg xs ys zs prog) (hK : RA S xk mk) (hH : RA S xh mh) (hG : NN S mh)
    (hp0 : mhp = 0 ↔ n = 0) (hst : n ≠ 0 → mst = nI n) (hM : MA hr ti en x y z cu mhr ab) :
    ∃ (k : Int32) (out' : Nat → Int64) (hr' ti' en' x' y' z' cu' he' ds' : Int32) (dd' xh' : Nat → Int32) (v mhr' mtl' : Int32) (wh' ab' bg' gp' mh' : Nat → Int32), fL_run N 1 out (nI n) hr ti en x y z cu he (nI S) (nI (S * S)) ds 32 ls 32 dg 32 xs 32 ys 32 zs xr xf 7 hw (S * S) dd (S * S) xk (S * S) xh = some (k, out', hr', ti', en', x', y', z', cu', he', ds', dd', xh') ∧
      fX7_run N th (nI S) mst mhp mhr mtl 3 wh 6 ab 160 prog 3 bg 3 gp 4 mr 400 mh 400 mk 4 mf = some (v, k, mhr', mtl', wh', ab', bg', gp', mh') ∧ (k = 0 → out' 0 = v.toInt64) ∧ MA hr' ti' en' x' y' z' cu' mhr' ab' ∧ RA S xh' mh' ∧ NN S mh' := by
  have c0 : ¬ ((0 : Int32) < 0 ∨ 1 ≤ (0 : Int32).toNatClampNeg) := by decide
  by_cases h0 : n = 0
  · refine ⟨1, out, hr, ti, en, x, y, z, cu, he, ds, dd, xh, 0, mhr, mtl, wh, ab, bg, gp, mh, ?_, ?_, fun h => absurd h (by decide), hM, hH, hG⟩
    · rw [fL_run, fX6_run, h0, if_pos (by decide), Option.bind_some, Sum.elim_inl, if_pos rfl]
    · rw [fX7_run, if_pos (hp0.mpr h0), JX7_run_13, if_neg (by decide)]
  · have hn := hP.1
    have w0 : ¬ ((0 : Int32) < 0 ∨ 3 ≤ (0 : Int32).toNatClampNeg) := by decide
    have w1 : ¬ ((1 : Int32) < 0 ∨ 3 ≤ (1 : Int32).toNatClampNeg) := by decide
    have w2 : ¬ ((2 : Int32) < 0 ∨ 3 ≤ (2 : Int32).toNatClampNeg) := by decide
    have a0 : ¬ ((0 : Int32) < 0 ∨ 6 ≤ (0 : Int32).toNatClampNeg) := by decide
    have a1 : ¬ ((1 : Int32) < 0 ∨ 6 ≤ (1 : Int32).toNatClampNeg) := by decide
    have a2 : ¬ ((2 : Int32) < 0 ∨ 6 ≤ (2 : Int32).toNatClampNeg) := by decide
    have a3 : ¬ ((3 : Int32) < 0 ∨ 6 ≤ (3 : Int32).toNatClampNeg) := by decide
    have a4 : ¬ ((4 : Int32) < 0 ∨ 6 ≤ (4 : Int32).toNatClampNeg) := by decide
    have a5 : ¬ ((5 : Int32) < 0 ∨ 6 ≤ (5 : Int32).toNatClampNeg) := by decide
    have hw0 : ∀ j, j < 3 → upd (upd (upd wh 0 0) 1 0) 2 100 j = nI ((fun j => if j = 2 then 100 else 0) j) := by
      intro j hj
      obtain rfl | rfl | rfl : j = 0 ∨ j = 1 ∨ j = 2 := by omega
      · rfl
      · rfl
      · rfl
    obtain ⟨k, p', e, ds', held, dd', xh', ab', mh', wh', bg', gp', tl, i1, i2, i3, i4, i5⟩ := run_sync (N := N) hN h2 h20 hT hP hK n N N 0 0 (fun j => if j = 2 then 100 else 0) 0 ds dd xh mh (upd (upd ab 0 0) 5 0) bg gp (upd (upd (upd wh 0 0) 1 0) 2 100) (by omega) (by omega) (by omega) (by omega) ⟨by show 0 < S; omega, by show 0 < S; omega, by show 100 ≤ 100; omega⟩ hw0 hH hG
    refine ⟨0, vp_updL out 0 k.toInt64, 1, ab' 0, e, nI (p' 0), nI (p' 1), nI (p' 2), ab' 5, held, ds', dd', xh', k, 1, tl, wh', upd (upd (upd (upd ab' 1 e) 2 (wh' 0)) 3 (wh' 1)) 4 (wh' 2), bg', gp', mh', ?_, ?_, fun _ => pk_uLs, ⟨rfl, fun _ => ⟨rfl, rfl, i3 0 (by omega), i3 1 (by omega), i3 2 (by omega), rfl⟩⟩, i4, i5⟩
    · rw [fL_run, fX6_run, if_neg (nI_ne0 (by omega) (by omega)), fX1_follow, fX1_startAnew, Option.bind_some, show LX1_follow_12 (nI n) N (nI S) (nI (S * S)) 32 ls 32 dg 32 xs 32 ys 32 zs xr xf 7 hw (S * S) (S * S) xk (S * S) N 0 0 0 0 0 0 0 100 dd ds xh = _ from i1, Option.bind_some, Option.bind_some, Sum.elim_inr, if_neg c0]
      rfl
    · rw [fX7_run, if_neg (fun h => h0 (hp0.mp h)), JX7_run_13, if_pos (by decide), if_neg w0, if_neg w1, if_neg w2, if_neg a0, if_neg a5, hst h0, show LX7_run_75 (nI n) 160 prog 6 N (nI S) 3 3 3 4 mr 400 400 mk 4 mf N 0 0 (upd (upd ab (0 : Int32).toNatClampNeg 0) (5 : Int32).toNatClampNeg 0) bg gp mh 0 (upd (upd (upd wh (0 : Int32).toNatClampNeg 0) (1 : Int32).toNatClampNeg 0) (2 : Int32).toNatClampNeg 100) = _ from i2, Option.bind_some, JX7_run_152, if_neg a1, if_neg w0, if_neg a2, if_neg w1, if_neg a3, if_neg w2, if_neg a4]
      rfl
