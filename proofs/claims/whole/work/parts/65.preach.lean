/-! reached(..). -/
def bI (b : Bool) : Int32 := if b then 1 else 0
theorem bI_t : bI true = 1 := rfl
theorem bI_f : bI false = 0 := rfl
theorem cnt_or (p q : Nat → Bool) (n : Nat) : cnt (fun c => p c || q c) n = cnt p n + cnt (fun c => !p c && q c) n := by
  induction n with
  | zero => rfl
  | succ n ih =>
    rw [cnt, cnt, cnt, ih]
    cases p n <;> cases q n <;> simp <;> omega
/-- what forbids to reach c from the centre e -/
def badX (S r cx cy : Nat) (xt xk : Nat → Int32) (c c' : Nat) : Bool := pX S r cx cy c' && (decide (¬ xk c' = 0) || decide (xt c < xt c'))
def badM (S r cx cy : Nat) (mt mk : Nat → Int32) (c c' : Nat) : Bool := pM S r cx cy c' && (decide (¬ mk c' = 0) || decide (mt c < mt c'))
def spX (S r cx cy : Nat) (xt xk : Nat → Int32) (c : Nat) : Bool := pX S r cx cy c && decide (cnt (badX S r cx cy xt xk c) (S * S) = 0)
def spM (S r cx cy : Nat) (mt mk : Nat → Int32) (c : Nat) : Bool := pM S r cx cy c && decide (cnt (badM S r cx cy mt mk c) 400 = 0)
theorem sp_eq {S r cx cy x y : Nat} {xt mt xk mk : Nat → Int32} (h20 : S ≤ 20) (hT : RA S xt mt) (hK : RA S xk mk) (hx : x < S) (hy : y < S) : spM S r cx cy mt mk (20 * y + x) = spX S r cx cy xt xk (S * y + x) := by
  have hst : Str S (badX S r cx cy xt xk (S * y + x)) (badM S r cx cy mt mk (20 * y + x)) := (Str.disc h20).and (fun x' y' hx' hy' => by rw [hT x y hx hy, hT x' y' hx' hy', hK x' y' hx' hy'])
  rw [spM, spX, pM_at hx hy h20, pX_at hx, hst.cnt h20]
def rch (S r : Nat) (xh xt xk : Nat → Int32) (E c : Nat) : Bool := offB true xh xt c && decide (cnt (fun e => spX S r (e % S) (e / S) xt xk c) E ≠ 0)
theorem rch_succ {S r E c : Nat} {xh xt xk : Nat → Int32} : rch S r xh xt xk (E + 1) c = (rch S r xh xt xk E c || (offB true xh xt c && spX S r (E % S) (E / S) xt xk c)) := by
  rw [rch, rch]
  cases h : spX S r (E % S) (E / S) xt xk c with
  | false => rw [cnt_f (p := fun e => spX S r (e % S) (e / S) xt xk c) h, Bool.and_false, Bool.or_false]
  | true =>
    rw [cnt_t (p := fun e => spX S r (e % S) (e / S) xt xk c) h, decide_eq_true (Nat.succ_ne_zero _), Bool.and_true]
    cases offB true xh xt c <;> simp
theorem hasKept_spec {N n : Nat} {p : Nat → Bool} {k d : Nat → Int32} (hN : 1000 ≤ N) (hn : n ≤ 400) (hL : Lst p n d) :
    fX0_discHasKept N (nI (cnt p n)) n k n d = some (flag (cnt (fun c => p c && decide (¬ k c = 0)) n)) := by
  have hcn := cnt_le p n
  obtain ⟨r, h1, h2⟩ := lstE (fun m i (_ : Unit) => LX0_discHasKept_2 (nI (cnt p n)) n d n k m (nI i)) p n (fun c _ => cnt (fun c => p c && decide (¬ k c = 0)) c = 0) (fun r => r = flag (cnt (fun c => p c && decide (¬ k c = 0)) n))
    (fun m c _ hc hp hP => by
      have hci := cnt_lt hc hp
      by_cases e : k c = 0
      · refine Or.inl ⟨(), ?_, ?_⟩
        · rw [cnt_f (and_f2 (decide_eq_false (fun hh => hh e)))]; exact hP
        · show LX0_discHasKept_2 (nI (cnt p n)) n d n k (m + 1) (nI (cnt p c)) = _
          rw [LX0_discHasKept_2, if_neg (nI_ge hci (by omega)), if_neg (nI_in (by omega) (by omega)), nI_clamp (by omega), hL c hc hp, if_neg (nI_in hc (by omega)), nI_clamp (by omega), if_pos e, nI_1]
      · refine Or.inr ⟨1, ?_, ?_⟩
        · have := cnt_lt (p := fun c => p c && decide (¬ k c = 0)) hc (and_t hp (decide_eq_true e))
          rw [flag_1 (by omega)]
        · show LX0_discHasKept_2 (nI (cnt p n)) n d n k (m + 1) (nI (cnt p c)) = _
          rw [LX0_discHasKept_2, if_neg (nI_ge hci (by omega)), if_neg (nI_in (by omega) (by omega)), nI_clamp (by omega), hL c hc hp, if_neg (nI_in hc (by omega)), nI_clamp (by omega), if_neg e])
    (fun c _ hc hp hP => by show cnt _ (c + 1) = 0; rw [cnt_f (and_f1 hp)]; exact hP)
    (fun m _ hP => ⟨0, by rw [flag_0 hP], by
      show LX0_discHasKept_2 (nI (cnt p n)) n d n k (m + 1) (nI (cnt p n)) = _
      rw [LX0_discHasKept_2, if_pos (nI_le (Nat.le_refl _) (by omega))]⟩) n N 0 () (by omega) (by omega) rfl
  rw [fX0_discHasKept, ← h1]
  exact h2
theorem highest_spec {N n : Nat} {p : Nat → Bool} {t d : Nat → Int32} (hN : 1000 ≤ N) (hn : n ≤ 400) (hL : Lst p n d) :
    ∃ H, fX0_highestTargetInDisc N (nI (cnt p n)) n t n d = some H ∧ (∀ c, c < n → p c = true → t c ≤ H) ∧ (H = 0 ∨ ∃ c, c < n ∧ p c = true ∧ t c = H) := by
  have hcn := cnt_le p n
  obtain ⟨H, ⟨h1, h2⟩, h3⟩ := lstI (fun m i (s : Int32) => LX0_highestTargetInDisc_4 (nI (cnt p n)) n d n t m s (nI i)) p n
    (fun c s => (∀ c', c' < c → p c' = true → t c' ≤ s) ∧ (s = 0 ∨ ∃ c', c' < c ∧ p c' = true ∧ t c' = s)) (fun s => (s, nI (cnt p n)))
    (fun m c s hc hp ⟨hP1, hP2⟩ => by
      have hci := cnt_lt hc hp
      refine ⟨if s < t c then t c else s, ⟨fun c' hc' hp' => ?_, ?_⟩, ?_⟩
      · by_cases e : s < t c
        · rw [if_pos e]
          by_cases e' : c' = c
          · rw [e']; exact Int32.le_refl _
          · exact Int32.le_trans (hP1 c' (by omega) hp') (Int32.le_of_lt e)
        · rw [if_neg e]
          by_cases e' : c' = c
          · rw [e']; exact Int32.not_lt.mp e
          · exact hP1 c' (by omega) hp'
      · by_cases e : s < t c
        · rw [if_pos e]
          exact Or.inr ⟨c, by omega, hp, rfl⟩
        · rw [if_neg e]
          rcases hP2 with h | ⟨c', a1, a2, a3⟩
          · exact Or.inl h
          · exact Or.inr ⟨c', by omega, a2, a3⟩
      · show LX0_highestTargetInDisc_4 (nI (cnt p n)) n d n t (m + 1) s (nI (cnt p c)) = _
        rw [LX0_highestTargetInDisc_4, if_neg (nI_ge hci (by omega)), if_neg (nI_in (by omega) (by omega)), nI_clamp (by omega), hL c hc hp, if_neg (nI_in hc (by omega)), nI_clamp (by omega), nI_1])
    (fun c s hc hp ⟨hP1, hP2⟩ => ⟨fun c' hc' hp' => by
        by_cases e' : c' = c
        · rw [e', hp] at hp'; cases hp'
        · exact hP1 c' (by omega) hp', by
        rcases hP2 with h | ⟨c', a1, a2, a3⟩
        · exact Or.inl h
        · exact Or.inr ⟨c', by omega, a2, a3⟩⟩)
    (fun m s _ => by
      show LX0_highestTargetInDisc_4 (nI (cnt p n)) n d n t (m + 1) s (nI (cnt p n)) = _
      rw [LX0_highestTargetInDisc_4, if_pos (nI_le (Nat.le_refl _) (by omega))]) N 0 (by omega) ⟨fun c hc => absurd hc (by omega), Or.inl rfl⟩
  refine ⟨H, ?_, h1, h2⟩
  rw [fX0_highestTargetInDisc, show LX0_highestTargetInDisc_4 (nI (cnt p n)) n d n t N 0 0 = _ from h3, Option.bind_some]
theorem mark_spec {N n : Nat} {p q : Nat → Bool} {h t d mk : Nat → Int32} {H : Int32} (hN : 1000 ≤ N) (hn : n ≤ 400) (hL : Lst p n d) (hM : ∀ c, c < n → mk c = bI (q c)) :
    ∃ mk', fX0_markReached N H (nI (cnt p n)) n d n mk n t n h = some (nI (cnt (fun c => !q c && (p c && (decide (t c = H) && offB true h t c))) n), mk') ∧ ∀ c, c < n → mk' c = bI (q c || (p c && (decide (t c = H) && offB true h t c))) := by
  have hcn := cnt_le p n
  obtain ⟨⟨k, mk'⟩, ⟨h1, h2, -⟩, h3⟩ := lstI (fun m i (s : Nat × (Nat → Int32)) => LX0_markReached_4 (nI (cnt p n)) n d n n t H N n h m (nI s.1) (nI i) s.2) p n
    (fun c s => s.1 = cnt (fun c => !q c && (p c && (decide (t c = H) && offB true h t c))) c ∧ (∀ c', c' < c → s.2 c' = bI (q c' || (p c' && (decide (t c' = H) && offB true h t c')))) ∧ ∀ c', c ≤ c' → c' < n → s.2 c' = bI (q c')) (fun s => (nI s.1, nI (cnt p n), s.2))
    (fun m c s hc hp ⟨hP1, hP2, hP3⟩ => by
      have hci := cnt_lt hc hp
      have hoff := isOff_spec (N := N) (up := true) (h := h) (t := t) hc hn
      rw [if_pos rfl] at hoff
      have hgo : LX0_markReached_4 (nI (cnt p n)) n d n n t H N n h (m + 1) (nI s.1) (nI (cnt p c)) s.2 = if (!q c && (decide (t c = H) && offB true h t c)) = true then LX0_markReached_4 (nI (cnt p n)) n d n n t H N n h m (nI (s.1 + 1)) (nI (cnt p c + 1)) (upd s.2 c 1) else LX0_markReached_4 (nI (cnt p n)) n d n n t H N n h m (nI s.1) (nI (cnt p c + 1)) s.2 := by
        rw [LX0_markReached_4, if_neg (nI_ge hci (by omega)), if_neg (nI_in (by omega) (by omega)), nI_clamp (by omega), hL c hc hp, if_neg (nI_in hc (by omega)), nI_clamp (by omega), hP3 c (Nat.le_refl _) hc]
        cases hq : q c with
        | true => rw [if_neg (by decide), nI_1]; rfl
        | false =>
          rw [if_pos (by decide), if_neg (nI_in'n hc (by omega))]
          by_cases e : t c = H
          · rw [if_pos e, hoff, Option.bind_some, decide_eq_true e]
            cases ho : offB true h t c with
            | true => rw [if_neg (by decide), if_neg (nI_in'n hc (by omega)), nb1, nI_1, nI_1]; rfl
            | false => rw [if_pos (by decide), nI_1]; rfl
          · rw [if_neg e, decide_eq_false e, nI_1]; rfl
      by_cases hb : (!q c && (decide (t c = H) && offB true h t c)) = true
      · have hb1 : q c = false := by cases hh : q c <;> simp [hh] at hb; rfl
        have hb2 : (decide (t c = H) && offB true h t c) = true := by rw [hb1] at hb; exact hb
        refine ⟨(s.1 + 1, upd s.2 c 1), ⟨?_, fun c' hc' => ?_, fun c' hc' hcn' => ?_⟩, ?_⟩
        · show s.1 + 1 = _
          rw [cnt_t (p := fun c => !q c && (p c && (decide (t c = H) && offB true h t c))) (and_t (by rw [hb1]; rfl) (and_t hp hb2)), hP1]
        · show upd s.2 c 1 c' = _
          by_cases e' : c' = c
          · rw [e', pk_us, and_t hp hb2, Bool.or_true]; rfl
          · rw [pk_un e']; exact hP2 c' (by omega)
        · show upd s.2 c 1 c' = _
          rw [pk_un (by omega)]; exact hP3 c' (by omega) hcn'
        · show LX0_markReached_4 (nI (cnt p n)) n d n n t H N n h (m + 1) (nI s.1) (nI (cnt p c)) s.2 = _
          rw [hgo, if_pos hb]
      · refine ⟨s, ⟨?_, fun c' hc' => ?_, fun c' hc' hcn' => hP3 c' (by omega) hcn'⟩, ?_⟩
        · rw [cnt_f (p := fun c => !q c && (p c && (decide (t c = H) && offB true h t c))) (by show (!q c && (p c && _)) = false; rw [hp]; simpa using hb)]; exact hP1
        · by_cases e' : c' = c
          · rw [e', hP3 c (Nat.le_refl _) hc, hp]
            cases hq : q c with
            | true => rfl
            | false => rw [hq] at hb; cases hx : (decide (t c = H) && offB true h t c) with
              | true => rw [hx] at hb; exact absurd rfl hb
              | false => rfl
          · exact hP2 c' (by omega)
        · show LX0_markReached_4 (nI (cnt p n)) n d n n t H N n h (m + 1) (nI s.1) (nI (cnt p c)) s.2 = _
          rw [hgo, if_neg hb])
    (fun c s hc hp ⟨hP1, hP2, hP3⟩ => ⟨by rw [cnt_f (p := fun c => !q c && (p c && (decide (t c = H) && offB true h t c))) (and_f2 (and_f1 hp))]; exact hP1, fun c' hc' => by
        by_cases e' : c' = c
        · rw [e', hP3 c (Nat.le_refl _) hc, and_f1 hp, Bool.or_false]
        · exact hP2 c' (by omega), fun c' hc' hcn' => hP3 c' (by omega) hcn'⟩)
    (fun m s _ => by
      show LX0_markReached_4 (nI (cnt p n)) n d n n t H N n h (m + 1) (nI s.1) (nI (cnt p n)) s.2 = _
      rw [LX0_markReached_4, if_pos (nI_le (Nat.le_refl _) (by omega))]) N (0, mk) (by omega) ⟨rfl, fun c hc => absurd hc (by omega), fun c _ hc => hM c hc⟩
  refine ⟨mk', ?_, h2⟩
  rw [fX0_markReached, show LX0_markReached_4 (nI (cnt p n)) n d n n t H N n h N 0 0 mk = _ from h3, Option.bind_some, h1]
theorem countReached_spec {S N r : Nat} {xh xt xk hw d mk : Nat → Int32} {ds : Int32} (hN : 1000 ≤ N) (h2 : 2 ≤ S) (h20 : S ≤ 20) (hr6 : r ≤ 6) (hR : ToolR r hw) (hpos : ∀ c, c < S * S → 0 ≤ xt c) :
    ∃ ds' mk' d', fX0_countReached N (nI S) (nI (S * S)) ds (nI r) (S * S) mk 7 hw (S * S) d (S * S) xk (S * S) xt (S * S) xh = some (nI (cnt (rch S r xh xt xk (S * S)) (S * S)), ds', mk', d') := by
  have hm := mul_400 h20 h20
  have inner : ∀ y, y < S → ∀ (s : (Nat → Int32) × Int32 × (Nat → Int32)), (∀ c, c < S * S → s.2.2 c = bI (rch S r xh xt xk (S * y) c)) →
      ∃ s' : (Nat → Int32) × Int32 × (Nat → Int32), (∀ c, c < S * S → s'.2.2 c = bI (rch S r xh xt xk (S * (y + 1)) c)) ∧ LX0_countReached_38 (nI S) N (nI y) (nI (S * S)) (nI r) 7 hw (S * S) (S * S) xk (S * S) xt (S * S) (S * S) xh N (nI (cnt (rch S r xh xt xk (S * y)) (S * S))) 0 s.1 s.2.1 s.2.2 = some (nI (cnt (rch S r xh xt xk (S * (y + 1))) (S * S)), nI S, s'.1, s'.2.1, s'.2.2) := by
    intro y hy s hs
    obtain ⟨s', h1, h3⟩ := loopI (fun m x (s : (Nat → Int32) × Int32 × (Nat → Int32)) => LX0_countReached_38 (nI S) N (nI y) (nI (S * S)) (nI r) 7 hw (S * S) (S * S) xk (S * S) xt (S * S) (S * S) xh m (nI (cnt (rch S r xh xt xk (S * y + x)) (S * S))) (nI x) s.1 s.2.1 s.2.2) S
      (fun x s => ∀ c, c < S * S → s.2.2 c = bI (rch S r xh xt xk (S * y + x) c)) (fun s => (nI (cnt (rch S r xh xt xk (S * y + S)) (S * S)), nI S, s.1, s.2.1, s.2.2))
      (fun m x s hx hP => by
        have e1 : (S * y + x) % S = x := by rw [Nat.mul_add_mod, Nat.mod_eq_of_lt hx]
        have e2 : (S * y + x) / S = y := by rw [Nat.mul_add_div (by omega), Nat.div_eq_of_lt hx, Nat.add_zero]
        obtain ⟨d', k1, k2⟩ := layDisc_spec (N := N) (d := s.1) (o := s.2.1) (cx := x) (cy := y) h2 h20 hN hr6 hR hx hy
        have hk := hasKept_spec (N := N) (k := xk) hN hm k2
        rcases flag_c (cnt (fun c => pX S r x y c && decide (¬ xk c = 0)) (S * S)) with ⟨f1, f2⟩ | ⟨f1, f2⟩
        · obtain ⟨H, g1, g2, g3⟩ := highest_spec (N := N) (t := xt) hN hm k2
          obtain ⟨mk', q1, q2⟩ := mark_spec (N := N) (q := rch S r xh xt xk (S * y + x)) (h := xh) (t := xt) (H := H) hN hm k2 hP
          have nokept : ∀ c, c < S * S → pX S r x y c = true → xk c = 0 := fun c hc hp => Decidable.byContradiction fun hh => by
            have := cnt_lt (p := fun c => pX S r x y c && decide (¬ xk c = 0)) hc (and_t hp (decide_eq_true hh))
            omega
          have key : ∀ c, c < S * S → (offB true xh xt c && spX S r x y xt xk c) = (pX S r x y c && (decide (xt c = H) && offB true xh xt c)) := by
            intro c hc
            cases hp : pX S r x y c with
            | false => rw [spX, hp]; simp
            | true =>
              have hsp : spX S r x y xt xk c = decide (xt c = H) := by
                rw [spX, hp, Bool.true_and, decide_eq_decide]
                constructor
                · intro hz
                  have hle : ∀ c', c' < S * S → pX S r x y c' = true → xt c' ≤ xt c := fun c' hc' hp' => Int32.not_lt.mp fun hh => by
                    have := cnt_lt (p := badX S r x y xt xk c) hc' (and_t hp' (by rw [decide_eq_true hh, Bool.or_true]))
                    omega
                  refine Int32.le_antisymm (g2 c hc hp) ?_
                  rcases g3 with rfl | ⟨c', b1, b2, b3⟩
                  · exact hpos c hc
                  · rw [← b3]; exact hle c' b1 b2
                · intro hz
                  refine cnt_zero (fun c' hc' => ?_)
                  cases hp' : pX S r x y c' with
                  | false => exact and_f1 hp'
                  | true =>
                    have h5 := nokept c' hc' hp'
                    have h6 : ¬ xt c < xt c' := by rw [hz]; exact Int32.not_lt.mpr (g2 c' hc' hp')
                    rw [badX, decide_eq_false (fun hh => hh h5), decide_eq_false h6]
                    simp
              rw [hsp, Bool.true_and, Bool.and_comm]
          have hr1 : ∀ c, c < S * S → rch S r xh xt xk (S * y + (x + 1)) c = (rch S r xh xt xk (S * y + x) c || (pX S r x y c && (decide (xt c = H) && offB true xh xt c))) := by
            intro c hc
            rw [← Nat.add_assoc, rch_succ, e1, e2, key c hc]
          refine ⟨(d', nI (cnt (pX S r x y) (S * S)), mk'), fun c hc => by show mk' c = _; rw [q2 c hc, hr1 c hc], ?_⟩
          show LX0_countReached_38 (nI S) N (nI y) (nI (S * S)) (nI r) 7 hw (S * S) (S * S) xk (S * S) xt (S * S) (S * S) xh (m + 1) (nI (cnt (rch S r xh xt xk (S * y + x)) (S * S))) (nI x) s.1 s.2.1 s.2.2 = _
          rw [LX0_countReached_38, if_neg (nI_ge hx (by omega)), k1, Option.bind_some, hk, Option.bind_some, f2, if_pos rfl, g1, Option.bind_some, q1, Option.bind_some, nI_1, nI_add, cnt_congr hr1, cnt_or]
        · have nosp : ∀ c, spX S r x y xt xk c = false := by
            intro c
            rw [spX]
            refine and_f2 (decide_eq_false fun hz => ?_)
            have hle : ∀ c', c' < S * S → (pX S r x y c' && decide (¬ xk c' = 0)) = false := fun c' hc' => by
              cases hp' : pX S r x y c' with
              | false => rfl
              | true =>
                by_cases h5 : xk c' = 0
                · rw [decide_eq_false (fun hh => hh h5)]; rfl
                · have := cnt_lt (p := badX S r x y xt xk c) hc' (and_t hp' (by rw [decide_eq_true h5]; rfl))
                  omega
            exact f1 (cnt_zero hle)
          have hr1 : ∀ c, c < S * S → rch S r xh xt xk (S * y + (x + 1)) c = rch S r xh xt xk (S * y + x) c := by
            intro c hc
            rw [← Nat.add_assoc, rch_succ, e1, e2, nosp, Bool.and_false, Bool.or_false]
          refine ⟨(d', nI (cnt (pX S r x y) (S * S)), s.2.2), fun c hc => by show s.2.2 c = _; rw [hr1 c hc]; exact hP c hc, ?_⟩
          show LX0_countReached_38 (nI S) N (nI y) (nI (S * S)) (nI r) 7 hw (S * S) (S * S) xk (S * S) xt (S * S) (S * S) xh (m + 1) (nI (cnt (rch S r xh xt xk (S * y + x)) (S * S))) (nI x) s.1 s.2.1 s.2.2 = _
          rw [LX0_countReached_38, if_neg (nI_ge hx (by omega)), k1, Option.bind_some, hk, Option.bind_some, f2, if_neg (by decide), nI_1, cnt_congr hr1])
      (fun m s _ => by
        show LX0_countReached_38 (nI S) N (nI y) (nI (S * S)) (nI r) 7 hw (S * S) (S * S) xk (S * S) xt (S * S) (S * S) xh (m + 1) (nI (cnt (rch S r xh xt xk (S * y + S)) (S * S))) (nI S) s.1 s.2.1 s.2.2 = _
        rw [LX0_countReached_38, if_pos (nI_le (Nat.le_refl _) (by omega))]) 0 N s (by omega) (by omega) hs
    rw [← Nat.mul_succ] at h1 h3
    exact ⟨s', h1, h3⟩
  obtain ⟨mk0, z1, z2⟩ := loopI (fun m a f => LX0_countReached_2 (nI (S * S)) (S * S) m (nI a) f) (S * S) (fun a f => ∀ c, c < a → f c = 0) (fun f => (nI (S * S), f)) (fun m a f ha hP => by
    refine ⟨upd f a 0, fun c hc => ?_, ?_⟩
    · by_cases e : c = a
      · subst e; exact pk_us
      · rw [pk_un e]; exact hP c (by omega)
    · show LX0_countReached_2 (nI (S * S)) (S * S) (m + 1) (nI a) f = _
      rw [LX0_countReached_2, if_neg (nI_ge ha (by omega)), if_neg (nI_in ha (by omega)), nI_clamp (by omega), nb0, nI_1]) (fun m f _ => by show LX0_countReached_2 (nI (S * S)) (S * S) (m + 1) (nI (S * S)) f = _; rw [LX0_countReached_2, if_pos (nI_le (Nat.le_refl _) (by omega))]) 0 N mk (by omega) (by omega) (fun c hc => absurd hc (by omega))
  obtain ⟨s', h1, h3⟩ := loopI (fun m y (s : (Nat → Int32) × Int32 × (Nat → Int32)) => LX0_countReached_27 (nI S) N (nI (S * S)) (nI r) 7 hw (S * S) (S * S) xk (S * S) xt (S * S) (S * S) xh m (nI (cnt (rch S r xh xt xk (S * y)) (S * S))) (nI y) s.1 s.2.1 s.2.2) S
    (fun y s => ∀ c, c < S * S → s.2.2 c = bI (rch S r xh xt xk (S * y) c)) (fun s => (nI (cnt (rch S r xh xt xk (S * S)) (S * S)), nI S, s.1, s.2.1, s.2.2))
    (fun m y s hy hP => by
      obtain ⟨s', i1, i2⟩ := inner y hy s hP
      refine ⟨s', i1, ?_⟩
      show LX0_countReached_27 (nI S) N (nI (S * S)) (nI r) 7 hw (S * S) (S * S) xk (S * S) xt (S * S) (S * S) xh (m + 1) (nI (cnt (rch S r xh xt xk (S * y)) (S * S))) (nI y) s.1 s.2.1 s.2.2 = _
      rw [LX0_countReached_27, if_neg (nI_ge hy (by omega)), i2, Option.bind_some, nI_1])
    (fun m s _ => by
      show LX0_countReached_27 (nI S) N (nI (S * S)) (nI r) 7 hw (S * S) (S * S) xk (S * S) xt (S * S) (S * S) xh (m + 1) (nI (cnt (rch S r xh xt xk (S * S)) (S * S))) (nI S) s.1 s.2.1 s.2.2 = _
      rw [LX0_countReached_27, if_pos (nI_le (Nat.le_refl _) (by omega))]) 0 N (d, ds, mk0) (by omega) (by omega) (fun c hc => by
        show mk0 c = _
        rw [z1 c hc, rch, show cnt (fun e => spX S r (e % S) (e / S) xt xk c) (S * 0) = 0 from rfl]
        simp [bI])
  refine ⟨s'.2.1, s'.2.2, s'.1, ?_⟩
  have hc0 : cnt (rch S r xh xt xk (S * 0)) (S * S) = 0 := cnt_zero (fun c hc => by rw [rch, show cnt (fun e => spX S r (e % S) (e / S) xt xk c) (S * 0) = 0 from rfl]; simp)
  have h4 : LX0_countReached_27 (nI S) N (nI (S * S)) (nI r) 7 hw (S * S) (S * S) xk (S * S) xt (S * S) (S * S) xh N 0 0 d ds mk0 = some (nI (cnt (rch S r xh xt xk (S * S)) (S * S)), nI S, s'.1, s'.2.1, s'.2.2) := by
    have := h3
    simp only [hc0] at this
    exact this
  rw [fX0_countReached, show LX0_countReached_2 (nI (S * S)) (S * S) N 0 mk = _ from z2, Option.bind_some, h4, Option.bind_some]
