/-! reached(..), the reference. -/
theorem spares_spec {S N r t cx cy c : Nat} {mr mt mk : Nat → Int32} (hN : 1000 ≤ N) (h2 : 2 ≤ S) (h20 : S ≤ 20) (ht : t < 4) (hr : mr t = nI r) (hr6 : r ≤ 6) (hx : cx < S) (hy : cy < S) (hc : c < 400) :
    fX7_spares N (nI t) (nI cx) (nI cy) (nI c) (nI S) 4 mr 400 mt 400 mk = some (bI (spM S r cx cy mt mk c)) := by
  obtain ⟨rr, h1, h3⟩ := loopE (fun m a (s : Bool) => LX7_spares_14 N (nI t) (nI cx) (nI cy) (nI S) 4 mr 400 (nI c) mt 400 mk m (bI s) (nI a)) 400
    (fun a s => s = (pM S r cx cy c && decide (cnt (badM S r cx cy mt mk c) a = 0))) (fun r' => r'.1 = bI (spM S r cx cy mt mk c))
    (fun m a s ha hP => by
      cases s with
      | false =>
        refine Or.inr ⟨(0, nI a), ?_, ?_⟩
        · show (0 : Int32) = _
          have : spM S r cx cy mt mk c = false := by
            rw [spM]
            cases hp : pM S r cx cy c with
            | false => rfl
            | true =>
              rw [hp, Bool.true_and] at hP
              have h5 : ¬ cnt (badM S r cx cy mt mk c) a = 0 := of_decide_eq_false hP.symm
              have h6 := cnt_mono (p := badM S r cx cy mt mk c) (show a ≤ 400 by omega)
              rw [Bool.true_and]
              exact decide_eq_false (by omega)
          rw [this]; rfl
        · show LX7_spares_14 N (nI t) (nI cx) (nI cy) (nI S) 4 mr 400 (nI c) mt 400 mk (m + 1) 0 (nI a) = _
          rw [LX7_spares_14, if_pos rfl, ite_self]
      | true =>
        have hp : pM S r cx cy c = true := (Bool.and_eq_true _ _ ▸ hP.symm).1
        have hz : cnt (badM S r cx cy mt mk c) a = 0 := of_decide_eq_true (Bool.and_eq_true _ _ ▸ hP.symm).2
        refine Or.inl ⟨!badM S r cx cy mt mk c a, ?_, ?_⟩
        · rw [hp, Bool.true_and]
          cases hb : badM S r cx cy mt mk c a with
          | true => rw [cnt_t hb]; simp
          | false => rw [cnt_f hb, hz]; simp
        · show LX7_spares_14 N (nI t) (nI cx) (nI cy) (nI S) 4 mr 400 (nI c) mt 400 mk (m + 1) 1 (nI a) = _
          rw [LX7_spares_14, qn400, if_neg (nI_ge ha (by omega)), if_neg (by decide), inDisc_spec h2 h20 ht hr hr6 hx hy ha, Option.bind_some, badM]
          cases hq : pM S r cx cy a with
          | false => rw [if_pos (by decide), nI_1]; rfl
          | true =>
            rw [if_neg (by decide), if_neg (nI_in ha (by omega)), if_neg (nI_in hc (by omega)), nI_clamp (by omega), nI_clamp (by omega), Bool.true_and]
            by_cases e : mt c < mt a
            · rw [if_pos e, decide_eq_true e, Bool.or_true, nI_1]; rfl
            · rw [if_neg e, decide_eq_false e, Bool.or_false, if_neg (nI_in' ha)]
              by_cases e0 : mk a = 0
              · rw [if_pos e0, decide_eq_false (fun hh => hh e0), nI_1]; rfl
              · rw [if_neg e0, decide_eq_true e0, nI_1]; rfl)
    (fun m s hP => ⟨(bI s, nI 400), by show bI s = _; rw [hP, spM], by
      show LX7_spares_14 N (nI t) (nI cx) (nI cy) (nI S) 4 mr 400 (nI c) mt 400 mk (m + 1) (bI s) (nI 400) = _
      rw [LX7_spares_14, qn400, if_pos (nI_le (Nat.le_refl _) (by omega))]⟩) 400 N 0 (pM S r cx cy c) (by omega) (by omega) (by simp [cnt])
  have h4 : LX7_spares_14 N (nI t) (nI cx) (nI cy) (nI S) 4 mr 400 (nI c) mt 400 mk N (if pM S r cx cy c then 1 else 0) 0 = some rr := h3
  rw [fX7_spares, inDisc_spec h2 h20 ht hr hr6 hx hy hc, Option.bind_some, h4, Option.bind_some, h1]
  cases spM S r cx cy mt mk c
  · rw [if_pos (by decide)]
  · rw [if_pos (by decide)]
def inG (S c : Nat) : Bool := decide (c % 20 < S) && decide (c / 20 < S)
def rchM (S r : Nat) (mh mt mk : Nat → Int32) (c : Nat) : Bool := (inG S c && offB true mh mt c) && decide (cnt (fun e => spM S r (e % S) (e / S) mt mk c) (S * S) ≠ 0)
theorem m79_spec {S N r t c : Nat} {mr mt mk : Nat → Int32} (hN : 1000 ≤ N) (h2 : 2 ≤ S) (h20 : S ≤ 20) (ht : t < 4) (hr : mr t = nI r) (hr6 : r ≤ 6) (hc : c < 400) :
    ∃ x, LX7_reached_79 (nI S) 1 N (nI t) (nI c) 4 mr 400 mt 400 mk N 0 0 = some (bI (decide (cnt (fun e => spM S r (e % S) (e / S) mt mk c) (S * S) ≠ 0)), x) := by
  have hm := mul_400 h20 h20
  have hsN : ¬ nI S = 0 := nI_ne0 (by omega) (by omega)
  obtain ⟨rr, h1, h3⟩ := loopE (fun m a (s : Bool) => LX7_reached_79 (nI S) 1 N (nI t) (nI c) 4 mr 400 mt 400 mk m (bI s) (nI a)) (S * S)
    (fun a s => s = decide (cnt (fun e => spM S r (e % S) (e / S) mt mk c) a ≠ 0)) (fun r' => r'.1 = bI (decide (cnt (fun e => spM S r (e % S) (e / S) mt mk c) (S * S) ≠ 0)))
    (fun m a s ha hP => by
      cases s with
      | true =>
        refine Or.inr ⟨(1, nI a), ?_, ?_⟩
        · show (1 : Int32) = _
          have h5 : cnt (fun e => spM S r (e % S) (e / S) mt mk c) a ≠ 0 := of_decide_eq_true hP.symm
          have h6 := cnt_mono (p := fun e => spM S r (e % S) (e / S) mt mk c) (show a ≤ S * S by omega)
          rw [decide_eq_true (show cnt (fun e => spM S r (e % S) (e / S) mt mk c) (S * S) ≠ 0 by omega)]; rfl
        · show LX7_reached_79 (nI S) 1 N (nI t) (nI c) 4 mr 400 mt 400 mk (m + 1) 1 (nI a) = _
          rw [LX7_reached_79, if_neg (show ¬ (1 : Int32) = 0 by decide), if_neg (show ¬ (1 : Int32) = 0 by decide), ite_self]
      | false =>
        have hz : cnt (fun e => spM S r (e % S) (e / S) mt mk c) a = 0 := Decidable.not_not.mp (of_decide_eq_false hP.symm)
        obtain ⟨a1, a2, a3⟩ := at_lt (by omega) h20 ha
        refine Or.inl ⟨spM S r (a % S) (a / S) mt mk c, ?_, ?_⟩
        · cases hb : spM S r (a % S) (a / S) mt mk c with
          | true => rw [cnt_t (p := fun e => spM S r (e % S) (e / S) mt mk c) hb]; simp
          | false => rw [cnt_f (p := fun e => spM S r (e % S) (e / S) mt mk c) hb, hz]; simp
        · show LX7_reached_79 (nI S) 1 N (nI t) (nI c) 4 mr 400 mt 400 mk (m + 1) 0 (nI a) = _
          have e1 : nI a - nI a / nI S * nI S = nI (a % S) := pk_rem (by omega) (by omega) (by omega)
          have e2 : nI a / nI S = nI (a / S) := pk_div (by omega) (by omega) (by omega)
          rw [LX7_reached_79, pk_mul, if_neg (nI_ge ha (by omega)), if_neg (show ¬ (1 : Int32) = 0 by decide), if_pos rfl, if_neg hsN, if_neg hsN, e1, e2, spares_spec hN h2 h20 ht hr hr6 a2 a1 hc, Option.bind_some, nI_1])
    (fun m s hP => ⟨(bI s, nI (S * S)), by show bI s = _; rw [hP], by
      show LX7_reached_79 (nI S) 1 N (nI t) (nI c) 4 mr 400 mt 400 mk (m + 1) (bI s) (nI (S * S)) = _
      rw [LX7_reached_79, pk_mul, if_pos (nI_le (Nat.le_refl _) (by omega))]⟩) (S * S) N 0 false (by omega) (by omega) (by simp [cnt])
  exact ⟨rr.2, by rw [← h1]; exact h3⟩
theorem mreached_spec {S N r t : Nat} {mr mh mt mk : Nat → Int32} (hN : 1000 ≤ N) (h2 : 2 ≤ S) (h20 : S ≤ 20) (ht : t < 4) (hr : mr t = nI r) (hr6 : r ≤ 6) :
    LX7_reached_22 0 N (nI S) (nI t) 4 mr 400 mt 400 mk 400 mh N 0 0 = some (nI (cnt (rchM S r mh mt mk) 400), nI 400) := by
  have z79 : ∀ c, LX7_reached_79 (nI S) 0 N (nI t) (nI c) 4 mr 400 mt 400 mk N 0 0 = some (0, 0) := fun c => by
    obtain ⟨N', hN'⟩ : ∃ N', N = N' + 1 := ⟨N - 1, by omega⟩
    generalize hM : N = M at *
    rw [hN', LX7_reached_79, if_pos rfl, ite_self]
  obtain ⟨s, -, h3⟩ := loopI (fun m c (_ : Unit) => LX7_reached_22 0 N (nI S) (nI t) 4 mr 400 mt 400 mk 400 mh m (nI (cnt (rchM S r mh mt mk) c)) (nI c)) 400 (fun _ _ => True) (fun _ => (nI (cnt (rchM S r mh mt mk) 400), nI 400))
    (fun m c _ hc _ => ⟨(), trivial, by
      show LX7_reached_22 0 N (nI S) (nI t) 4 mr 400 mt 400 mk 400 mh (m + 1) (nI (cnt (rchM S r mh mt mk) c)) (nI c) = _
      have e1 : nI c - nI c / 20 * 20 = nI (c % 20) := pk_rem (d := 20) (by omega) (by omega) (by omega)
      have e2 : nI c / 20 = nI (c / 20) := pk_div (d := 20) (by omega) (by omega) (by omega)
      obtain ⟨x, hx79⟩ := m79_spec (N := N) (mt := mt) (mk := mk) (c := c) hN h2 h20 ht hr hr6 hc
      rw [LX7_reached_22, qn400, if_neg (nI_ge hc (by omega)), if_pos rfl, if_neg (by decide), if_neg (by decide), e1, e2]
      have skip : rchM S r mh mt mk c = false → JX7_reached_73 (fun b0 b1 => LX7_reached_22 0 N (nI S) (nI t) 4 mr 400 mt 400 mk 400 mh m b0 b1) (nI S) N (nI t) (nI c) 4 mr 400 mt 400 mk (nI (cnt (rchM S r mh mt mk) c)) = LX7_reached_22 0 N (nI S) (nI t) 4 mr 400 mt 400 mk 400 mh m (nI (cnt (rchM S r mh mt mk) (c + 1))) (nI (c + 1)) := fun hb => by
        rw [JX7_reached_73, JX7_reached_74, z79, Option.bind_some, JX7_reached_131, if_pos rfl, nI_1, cnt_f hb]
      rcases cell2 (N := N) (x := nI (c % 20)) (y := nI (c / 20)) h2 h20 with ⟨i, j, hi, hj, e3, e4, -, f1⟩ | ⟨hno, -, f1⟩
      · rw [nI_eq (by omega) (by omega)] at e3 e4
        rw [f1, Option.bind_some, if_neg (by decide), if_neg (nI_in hc (by omega)), if_neg (nI_in hc (by omega)), nI_clamp (by omega)]
        have hg : inG S c = true := and_t (decide_eq_true (by omega)) (decide_eq_true (by omega))
        by_cases e : mh c ≤ mt c
        · rw [if_pos e, skip (by rw [rchM, offT, decide_eq_false (fun hh => hh e), Bool.and_false, Bool.false_and])]
        · have ho : offB true mh mt c = true := by rw [offT]; exact decide_eq_true e
          have hrm : rchM S r mh mt mk c = decide (cnt (fun e => spM S r (e % S) (e / S) mt mk c) (S * S) ≠ 0) := by rw [rchM, hg, ho, Bool.true_and, Bool.true_and]
          rw [if_neg e, JX7_reached_74, hx79, Option.bind_some, ← hrm, JX7_reached_131]
          cases hb : rchM S r mh mt mk c with
          | true => rw [if_neg (show ¬ bI true = 0 by decide), nI_1, nI_1, cnt_t hb]
          | false => rw [if_pos (show bI false = 0 by decide), nI_1, cnt_f hb]
      · rw [f1, Option.bind_some, if_pos rfl, skip]
        have hg : inG S c = false := by
          cases hh : inG S c with
          | false => rfl
          | true =>
            rw [inG, Bool.and_eq_true] at hh
            exact absurd ⟨c % 20, c / 20, of_decide_eq_true hh.1, of_decide_eq_true hh.2, rfl, rfl⟩ hno
        rw [rchM, hg, Bool.false_and, Bool.false_and]⟩)
    (fun m _ _ => by
      show LX7_reached_22 0 N (nI S) (nI t) 4 mr 400 mt 400 mk 400 mh (m + 1) (nI (cnt (rchM S r mh mt mk) 400)) (nI 400) = _
      rw [LX7_reached_22, qn400, if_pos (nI_le (Nat.le_refl _) (by omega))]) 0 N () (by omega) (by omega) trivial
  exact h3
theorem pu_reached {S N : Nat} {a1 th ds : Int32} {xh mh xt mt xk mk xr xf mr mf d mks : Nat → Int32} {hw : Nat → Nat → Int32} {out : Nat → Int64} (hN : 1000 ≤ N) (h2 : 2 ≤ S) (h20 : S ≤ 20) (hT : TL xr xf hw mr mf) (hH : RA S xh mh) (hTa : RA S xt mt) (hK : RA S xk mk) (hG : NN S mt) :
    ∃ k out' ds' mks' d' v, fL_reached N a1 1 out (nI S) (nI (S * S)) ds xr (S * S) mks 7 hw (S * S) d (S * S) xk (S * S) xt (S * S) xh = some (k, out', ds', mks', d') ∧ fX7_reached N a1 th (nI S) 400 mh 400 mt 4 mr 400 mk = some (v, k) ∧ (k = 0 → out' 0 = v.toInt64) := by
  have c0 : ¬ ((0 : Int32) < 0 ∨ 1 ≤ (0 : Int32).toNatClampNeg) := by decide
  have t1 : (∃ j, j < 4 ∧ a1 = nI j ∧ fX6_demandTool N a1 = some (.inr ()) ∧ fX7_isIn N a1 0 3 = some 1) ∨ (fX6_demandTool N a1 = some (.inl 0) ∧ fX7_isIn N a1 0 3 = some 0) := by
    rcases what_spec (N := N) (w := 3) (x := a1) (by omega) with ⟨j, hj, rfl, e1, f1⟩ | ⟨e1, f1⟩
    · refine Or.inl ⟨j, by omega, rfl, ?_, f1⟩
      rw [fX6_demandTool, if_neg (nI_pos (by omega)), qn4, if_pos (nI_lt (by omega) (by omega))]
    · refine Or.inr ⟨?_, f1⟩
      rw [fX6_demandTool]
      by_cases h : a1 < 0
      · rw [if_pos h]
      · rw [if_neg h, if_neg]
        intro hh
        rw [fX6_demandWhat, if_neg h, if_pos] at e1
        · cases e1
        · rw [Int32.lt_iff_toInt_lt, qn4, nI_toInt (by omega)] at hh
          rw [Int32.le_iff_toInt_le, nI_toInt (by omega)]
          omega
  rcases t1 with ⟨t, ht, rfl, e1, f1⟩ | ⟨e1, f1⟩
  · obtain ⟨r, hr6, hxr, hmr, -, hR⟩ := hT t ht
    obtain ⟨ds', mks', d', g1⟩ := countReached_spec (N := N) (xh := xh) (xt := xt) (xk := xk) (d := d) (mk := mks) (ds := ds) hN h2 h20 hr6 hR (fun c hc => by
      obtain ⟨b1, b2, -⟩ := at_lt (by omega) h20 hc
      rw [hTa.at (by omega) hc]; exact hG _ _ b2 b1)
    have hst : Str S (rch S r xh xt xk (S * S)) (rchM S r mh mt mk) := by
      refine ⟨fun x y hx hy => ?_, fun c hc ho => ?_⟩
      · rw [rch, rchM, cnt_congr (fun e _ => sp_eq (r := r) (cx := e % S) (cy := e / S) h20 hTa hK hx hy), offT, offT, hH x y hx hy, hTa x y hx hy, show inG S (20 * y + x) = true from and_t (decide_eq_true (by omega)) (decide_eq_true (by omega)), Bool.true_and]
      · have hg : inG S c = false := by
          rcases ho with h | h
          · exact and_f1 (decide_eq_false (by omega))
          · exact and_f2 (decide_eq_false (by omega))
        rw [rchM, hg, Bool.false_and, Bool.false_and]
    refine ⟨0, vp_updL out 0 (nI (cnt (rch S r xh xt xk (S * S)) (S * S))).toInt64, ds', mks', d', _, ?_, ?_, fun _ => pk_uLs⟩
    · rw [fL_reached, fX6_reached, e1, Option.bind_some, Sum.elim_inr, if_neg (nI_in ht (by omega)), nI_clamp (by omega), hxr, g1, Option.bind_some, Option.bind_some, Sum.elim_inr, if_neg c0]
      rfl
    · rw [fX7_reached, f1, Option.bind_some, if_neg (by decide), JX7_reached_15, mreached_spec hN h2 h20 ht hmr hr6, Option.bind_some, hst.cnt h20]
  · refine ⟨1, out, ds, mks, d, 0, ?_, ?_, fun h => absurd h (by decide)⟩
    · rw [fL_reached, fX6_reached, e1, Option.bind_some, Sum.elim_inl, Option.bind_some, Sum.elim_inl, if_pos rfl]
    · obtain ⟨N', rfl⟩ : ∃ N', N = N' + 1 := ⟨N - 1, by omega⟩
      rw [fX7_reached, f1, Option.bind_some, if_pos rfl, JX7_reached_15, LX7_reached_22, if_neg (by decide), if_neg (by decide), Option.bind_some]
