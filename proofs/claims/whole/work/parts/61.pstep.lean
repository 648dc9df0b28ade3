/-! One step of a move: both sides. -/
def flag (n : Nat) : Int32 := if n = 0 then 0 else 1
theorem flag_0 {n : Nat} (h : n = 0) : flag n = 0 := if_pos h
theorem flag_1 {n : Nat} (h : n ≠ 0) : flag n = 1 := if_neg h
theorem flag_s (n : Nat) : flag (n + 1) = 1 := if_neg (by omega)
theorem flag_c (n : Nat) : (n = 0 ∧ flag n = 0) ∨ (n ≠ 0 ∧ flag n = 1) := by
  by_cases h : n = 0
  · exact Or.inl ⟨h, flag_0 h⟩
  · exact Or.inr ⟨h, flag_1 h⟩
def Str (S : Nat) (p q : Nat → Bool) : Prop := (∀ x y, x < S → y < S → q (20 * y + x) = p (S * y + x)) ∧ ∀ c, c < 400 → (S ≤ c % 20 ∨ S ≤ c / 20) → q c = false
theorem Str.cnt {S : Nat} {p q : Nat → Bool} (h : Str S p q) (h20 : S ≤ 20) : cnt q 400 = cnt p (S * S) := cnt_stride h20 h.1 h.2
theorem Str.disc {S r cx cy : Nat} (h20 : S ≤ 20) : Str S (pX S r cx cy) (pM S r cx cy) := ⟨fun x y hx hy => by rw [pM_at hx hy h20, pX_at hx], fun c _ h => pM_out h⟩
theorem Str.and {S : Nat} {p q f g : Nat → Bool} (h : Str S p q) (hf : ∀ x y, x < S → y < S → g (20 * y + x) = f (S * y + x)) : Str S (fun c => p c && f c) (fun c => q c && g c) :=
  ⟨fun x y hx hy => by show (q _ && g _) = (p _ && f _); rw [h.1 x y hx hy, hf x y hx hy], fun c hc ho => by show (q _ && g _) = false; rw [h.2 c hc ho]; rfl⟩
def abv (h : Nat → Int32) (z : Int32) (c : Nat) : Bool := decide (¬ h c ≤ z)
def abk (k h : Nat → Int32) (z : Int32) (c : Nat) : Bool := decide (¬ k c = 0) && abv h z c
theorem and_t {a b : Bool} (ha : a = true) (hb : b = true) : (a && b) = true := by rw [ha, hb]; rfl
theorem and_f1 {a b : Bool} (ha : a = false) : (a && b) = false := by rw [ha]; rfl
theorem and_f2 {a b : Bool} (hb : b = false) : (a && b) = false := by rw [hb]; exact Bool.and_false a
theorem abv_t {h : Nat → Int32} {z : Int32} {c : Nat} (e : ¬ h c ≤ z) : abv h z c = true := decide_eq_true e
theorem abv_f {h : Nat → Int32} {z : Int32} {c : Nat} (e : h c ≤ z) : abv h z c = false := decide_eq_false (fun hh => hh e)
theorem rises_spec {N n : Nat} {p : Nat → Bool} {h d : Nat → Int32} {z : Int32} (hN : 1000 ≤ N) (hn : n ≤ 400) (hL : Lst p n d) :
    fX0_discRisesAbove N z (nI (cnt p n)) n h n d = some (flag (cnt (fun c => p c && abv h z c) n)) := by
  have hcn := cnt_le p n
  obtain ⟨r, h1, h2⟩ := lstE (fun m i (_ : Unit) => LX0_discRisesAbove_2 (nI (cnt p n)) n d n h z m (nI i)) p n (fun c _ => cnt (fun c => p c && abv h z c) c = 0) (fun r => r = flag (cnt (fun c => p c && abv h z c) n))
    (fun m c _ hc hp hP => by
      have hci := cnt_lt hc hp
      by_cases e : h c ≤ z
      · refine Or.inl ⟨(), ?_, ?_⟩
        · rw [cnt_f (and_f2 (abv_f e))]; exact hP
        · show LX0_discRisesAbove_2 (nI (cnt p n)) n d n h z (m + 1) (nI (cnt p c)) = _
          rw [LX0_discRisesAbove_2, if_neg (nI_ge hci (by omega)), if_neg (nI_in (by omega) (by omega)), nI_clamp (by omega), hL c hc hp, if_neg (nI_in hc (by omega)), nI_clamp (by omega), if_pos e, nI_1]
      · refine Or.inr ⟨1, ?_, ?_⟩
        · have := cnt_lt (p := fun c => p c && abv h z c) hc (and_t hp (abv_t e))
          rw [flag_1 (by omega)]
        · show LX0_discRisesAbove_2 (nI (cnt p n)) n d n h z (m + 1) (nI (cnt p c)) = _
          rw [LX0_discRisesAbove_2, if_neg (nI_ge hci (by omega)), if_neg (nI_in (by omega) (by omega)), nI_clamp (by omega), hL c hc hp, if_neg (nI_in hc (by omega)), nI_clamp (by omega), if_neg e])
    (fun c _ hc hp hP => by show cnt _ (c + 1) = 0; rw [cnt_f (and_f1 hp)]; exact hP)
    (fun m _ hP => ⟨0, by rw [flag_0 hP], by
      show LX0_discRisesAbove_2 (nI (cnt p n)) n d n h z (m + 1) (nI (cnt p n)) = _
      rw [LX0_discRisesAbove_2, if_pos (nI_le (Nat.le_refl _) (by omega))]⟩) n N 0 () (by omega) (by omega) rfl
  rw [fX0_discRisesAbove, ← h1]
  exact h2
theorem keptAbove_spec {N n : Nat} {p : Nat → Bool} {k h d : Nat → Int32} {z : Int32} (hN : 1000 ≤ N) (hn : n ≤ 400) (hL : Lst p n d) :
    fX0_discHasKeptAbove N z (nI (cnt p n)) n k n d n h = some (flag (cnt (fun c => p c && abk k h z c) n)) := by
  have hcn := cnt_le p n
  obtain ⟨r, h1, h2⟩ := lstE (fun m i (_ : Unit) => LX0_discHasKeptAbove_2 (nI (cnt p n)) n d n k n h z m (nI i)) p n (fun c _ => cnt (fun c => p c && abk k h z c) c = 0) (fun r => r = flag (cnt (fun c => p c && abk k h z c) n))
    (fun m c _ hc hp hP => by
      have hci := cnt_lt hc hp
      by_cases e0 : k c = 0
      · refine Or.inl ⟨(), ?_, ?_⟩
        · rw [cnt_f (and_f2 (and_f1 (decide_eq_false (fun hh => hh e0))))]; exact hP
        · show LX0_discHasKeptAbove_2 (nI (cnt p n)) n d n k n h z (m + 1) (nI (cnt p c)) = _
          rw [LX0_discHasKeptAbove_2, if_neg (nI_ge hci (by omega)), if_neg (nI_in (by omega) (by omega)), nI_clamp (by omega), hL c hc hp, if_neg (nI_in hc (by omega)), nI_clamp (by omega), if_pos e0, nI_1]
      · by_cases e : h c ≤ z
        · refine Or.inl ⟨(), ?_, ?_⟩
          · rw [cnt_f (and_f2 (and_f2 (abv_f e)))]; exact hP
          · show LX0_discHasKeptAbove_2 (nI (cnt p n)) n d n k n h z (m + 1) (nI (cnt p c)) = _
            rw [LX0_discHasKeptAbove_2, if_neg (nI_ge hci (by omega)), if_neg (nI_in (by omega) (by omega)), nI_clamp (by omega), hL c hc hp, if_neg (nI_in hc (by omega)), nI_clamp (by omega), if_neg e0, if_neg (nI_in'n (by omega) (by omega)), if_neg (nI_in'n hc (by omega)), if_pos e, nI_1]
        · refine Or.inr ⟨1, ?_, ?_⟩
          · have := cnt_lt (p := fun c => p c && abk k h z c) hc (and_t hp (and_t (decide_eq_true e0) (abv_t e)))
            rw [flag_1 (by omega)]
          · show LX0_discHasKeptAbove_2 (nI (cnt p n)) n d n k n h z (m + 1) (nI (cnt p c)) = _
            rw [LX0_discHasKeptAbove_2, if_neg (nI_ge hci (by omega)), if_neg (nI_in (by omega) (by omega)), nI_clamp (by omega), hL c hc hp, if_neg (nI_in hc (by omega)), nI_clamp (by omega), if_neg e0, if_neg (nI_in'n (by omega) (by omega)), if_neg (nI_in'n hc (by omega)), if_neg e])
    (fun c _ hc hp hP => by show cnt _ (c + 1) = 0; rw [cnt_f (and_f1 hp)]; exact hP)
    (fun m _ hP => ⟨0, by rw [flag_0 hP], by
      show LX0_discHasKeptAbove_2 (nI (cnt p n)) n d n k n h z (m + 1) (nI (cnt p n)) = _
      rw [LX0_discHasKeptAbove_2, if_pos (nI_le (Nat.le_refl _) (by omega))]⟩) n N 0 () (by omega) (by omega) rfl
  rw [fX0_discHasKeptAbove, ← h1]
  exact h2
theorem lower_spec {N n : Nat} {p : Nat → Bool} {h d : Nat → Int32} {z : Int32} (hN : 1000 ≤ N) (hn : n ≤ 400) (hL : Lst p n d) :
    ∃ h', fX0_lowerDisc N z (nI (cnt p n)) n h n d = some (nI (cnt (fun c => p c && abv h z c) n), h') ∧ ∀ c, c < n → h' c = if p c && abv h z c then z else h c := by
  have hcn := cnt_le p n
  obtain ⟨⟨k, h'⟩, ⟨h1, h2, -⟩, h3⟩ := lstI (fun m i (s : Nat × (Nat → Int32)) => LX0_lowerDisc_4 (nI (cnt p n)) n d n z m (nI s.1) (nI i) s.2) p n
    (fun c s => s.1 = cnt (fun c => p c && abv h z c) c ∧ (∀ c', c' < c → s.2 c' = if p c' && abv h z c' then z else h c') ∧ ∀ c', c ≤ c' → s.2 c' = h c') (fun s => (nI s.1, nI (cnt p n), s.2))
    (fun m c s hc hp ⟨hP1, hP2, hP3⟩ => by
      have hci := cnt_lt hc hp
      by_cases e : h c ≤ z
      · refine ⟨s, ⟨?_, fun c' hc' => ?_, fun c' hc' => hP3 c' (by omega)⟩, ?_⟩
        · rw [cnt_f (and_f2 (abv_f e))]; exact hP1
        · by_cases e' : c' = c
          · rw [e', hP3 c (Nat.le_refl _), and_f2 (abv_f e)]; rfl
          · exact hP2 c' (by omega)
        · show LX0_lowerDisc_4 (nI (cnt p n)) n d n z (m + 1) (nI s.1) (nI (cnt p c)) s.2 = LX0_lowerDisc_4 (nI (cnt p n)) n d n z m (nI s.1) (nI (cnt p c + 1)) s.2
          rw [LX0_lowerDisc_4, if_neg (nI_ge hci (by omega)), if_neg (nI_in (by omega) (by omega)), nI_clamp (by omega), hL c hc hp, if_neg (nI_in hc (by omega)), nI_clamp (by omega), hP3 c (Nat.le_refl _), if_pos e, nI_1]
      · refine ⟨(s.1 + 1, upd s.2 c z), ⟨?_, fun c' hc' => ?_, fun c' hc' => ?_⟩, ?_⟩
        · rw [cnt_t (and_t hp (abv_t e))]; exact congrArg (· + 1) hP1
        · by_cases e' : c' = c
          · rw [e', and_t hp (abv_t e)]; exact pk_us
          · show upd s.2 c z c' = _
            rw [pk_un e']; exact hP2 c' (by omega)
        · show upd s.2 c z c' = _
          rw [pk_un (by omega)]; exact hP3 c' (by omega)
        · show LX0_lowerDisc_4 (nI (cnt p n)) n d n z (m + 1) (nI s.1) (nI (cnt p c)) s.2 = LX0_lowerDisc_4 (nI (cnt p n)) n d n z m (nI (s.1 + 1)) (nI (cnt p c + 1)) (upd s.2 c z)
          rw [LX0_lowerDisc_4, if_neg (nI_ge hci (by omega)), if_neg (nI_in (by omega) (by omega)), nI_clamp (by omega), hL c hc hp, if_neg (nI_in hc (by omega)), nI_clamp (by omega), hP3 c (Nat.le_refl _), if_neg e, if_neg (nI_in'n (by omega) (by omega)), if_neg (nI_in'n hc (by omega)), nI_1, nI_1])
    (fun c s hc hp ⟨hP1, hP2, hP3⟩ => ⟨by rw [cnt_f (and_f1 hp)]; exact hP1, fun c' hc' => by
        by_cases e' : c' = c
        · rw [e', hP3 c (Nat.le_refl _), and_f1 hp]; rfl
        · exact hP2 c' (by omega), fun c' hc' => hP3 c' (by omega)⟩)
    (fun m s _ => by
      show LX0_lowerDisc_4 (nI (cnt p n)) n d n z (m + 1) (nI s.1) (nI (cnt p n)) s.2 = _
      rw [LX0_lowerDisc_4, if_pos (nI_le (Nat.le_refl _) (by omega))]) N (0, h) (by omega) ⟨rfl, fun c hc => absurd hc (by omega), fun c _ => rfl⟩
  refine ⟨h', ?_, h2⟩
  rw [fX0_lowerDisc, show LX0_lowerDisc_4 (nI (cnt p n)) n d n z N 0 0 h = _ from h3, Option.bind_some, h1]
/-! the reference -/
theorem j49 {rec : Int32 → Int32 → Int32 → Option (Int32 × Int32 × Int32)} {k : Nat → Int32} {a b c : Nat} (hc : c < 400) :
    JX7_step_49 rec (flag a) (flag b) (nI c) 400 k 0 = rec (flag a) (flag b) (nI (c + 1)) ∧
    JX7_step_49 rec (flag a) (flag b) (nI c) 400 k 1 = rec 1 (if k c = 0 then flag b else 1) (nI (c + 1)) := by
  have hi := nI_in hc (show 400 < 2 ^ 31 by omega)
  rcases flag_c a with ⟨-, ea⟩ | ⟨-, ea⟩ <;> rcases flag_c b with ⟨-, eb⟩ | ⟨-, eb⟩ <;> rw [ea, eb]
  · refine ⟨?_, ?_⟩
    · rw [JX7_step_49, if_pos rfl, if_pos rfl, JX7_step_66, if_pos rfl, if_pos rfl, nI_1]
    · rw [JX7_step_49, if_pos rfl, if_neg (by decide), JX7_step_61, JX7_step_66, if_pos rfl, if_neg (by decide), if_neg hi, nI_clamp (by omega), nI_1]
      split <;> rfl
  · refine ⟨?_, ?_⟩
    · rw [JX7_step_49, if_pos rfl, if_pos rfl, JX7_step_66, if_neg (by decide), nI_1]
    · rw [JX7_step_49, if_pos rfl, if_neg (by decide), JX7_step_61, JX7_step_66, if_neg (by decide), nI_1]
      split <;> rfl
  · refine ⟨?_, ?_⟩
    · rw [JX7_step_49, if_neg (by decide), JX7_step_61, JX7_step_66, if_pos rfl, if_pos rfl, nI_1]
    · rw [JX7_step_49, if_neg (by decide), JX7_step_61, JX7_step_66, if_pos rfl, if_neg (by decide), if_neg hi, nI_clamp (by omega), nI_1]
      split <;> rfl
  · refine ⟨?_, ?_⟩
    · rw [JX7_step_49, if_neg (by decide), JX7_step_61, JX7_step_66, if_neg (by decide), nI_1]
    · rw [JX7_step_49, if_neg (by decide), JX7_step_61, JX7_step_66, if_neg (by decide), nI_1]
      split <;> rfl
theorem mflags_spec {S N r t cx cy : Nat} {mr mh mk : Nat → Int32} {z : Int32} (hN : 1000 ≤ N) (h2 : 2 ≤ S) (h20 : S ≤ 20) (ht : t < 4) (hr : mr t = nI r) (hr6 : r ≤ 6) (hx : cx < S) (hy : cy < S) :
    LX7_step_9 N (nI t) (nI cx) (nI cy) (nI S) 4 mr 400 mk 400 mh z N 0 0 0 = some (flag (cnt (fun c => pM S r cx cy c && abv mh z c) 400), flag (cnt (fun c => pM S r cx cy c && abk mk mh z c) 400), nI 400) := by
  obtain ⟨s, -, h3⟩ := loopI (fun m c (_ : Unit) => LX7_step_9 N (nI t) (nI cx) (nI cy) (nI S) 4 mr 400 mk 400 mh z m (flag (cnt (fun c => pM S r cx cy c && abv mh z c) c)) (flag (cnt (fun c => pM S r cx cy c && abk mk mh z c) c)) (nI c)) 400 (fun _ _ => True) (fun _ => (flag (cnt (fun c => pM S r cx cy c && abv mh z c) 400), flag (cnt (fun c => pM S r cx cy c && abk mk mh z c) 400), nI 400))
    (fun m c _ hc _ => ⟨(), trivial, by
      show LX7_step_9 N (nI t) (nI cx) (nI cy) (nI S) 4 mr 400 mk 400 mh z (m + 1) (flag (cnt (fun c => pM S r cx cy c && abv mh z c) c)) (flag (cnt (fun c => pM S r cx cy c && abk mk mh z c) c)) (nI c) = _
      rw [LX7_step_9, qn400, if_neg (nI_ge hc (by omega)), inDisc_spec h2 h20 ht hr hr6 hx hy hc, Option.bind_some]
      cases hp : pM S r cx cy c with
      | false => rw [if_pos (by decide), JX7_step_48, (j49 hc).1, cnt_f (and_f1 hp), cnt_f (and_f1 hp)]
      | true =>
        rw [if_neg (by decide), if_neg (nI_in hc (by omega)), nI_clamp (by omega)]
        by_cases e : mh c ≤ z
        · rw [if_pos e, JX7_step_48, (j49 hc).1, cnt_f (and_f2 (abv_f e)), cnt_f (and_f2 (and_f2 (abv_f e)))]
        · rw [if_neg e, (j49 hc).2, cnt_t (and_t hp (abv_t e)), flag_s]
          by_cases e0 : mk c = 0
          · rw [if_pos e0, cnt_f (and_f2 (and_f1 (decide_eq_false (fun hh => hh e0))))]
          · rw [if_neg e0, cnt_t (and_t hp (and_t (decide_eq_true e0) (abv_t e))), flag_s]⟩)
    (fun m _ _ => by
      show LX7_step_9 N (nI t) (nI cx) (nI cy) (nI S) 4 mr 400 mk 400 mh z (m + 1) (flag (cnt (fun c => pM S r cx cy c && abv mh z c) 400)) (flag (cnt (fun c => pM S r cx cy c && abk mk mh z c) 400)) (nI 400) = _
      rw [LX7_step_9, qn400, if_pos (nI_le (Nat.le_refl _) (by omega))]) 0 N () (by omega) (by omega) trivial
  exact h3
theorem mlower_spec {S N r t cx cy : Nat} {mr mh ab : Nat → Int32} {z : Int32} (hN : 1000 ≤ N) (h2 : 2 ≤ S) (h20 : S ≤ 20) (ht : t < 4) (hr : mr t = nI r) (hr6 : r ≤ 6) (hx : cx < S) (hy : cy < S) :
    ∃ ab' mh', LX7_step_133 N (nI t) (nI cx) (nI cy) (nI S) 4 mr 400 z 6 N 0 ab mh = some (nI 400, ab', mh') ∧ ab' 0 = ab 0 ∧ ab' 5 = ab 5 + nI (cnt (fun c => pM S r cx cy c && abv mh z c) 400) ∧ ∀ c, c < 400 → mh' c = if pM S r cx cy c && abv mh z c then z else mh c := by
  have c5 : ¬ ((5 : Int32) < 0 ∨ 6 ≤ (5 : Int32).toNatClampNeg) := by decide
  obtain ⟨⟨ab', mh'⟩, ⟨h1, h3, h4, -⟩, h5⟩ := loopI (fun m c (s : (Nat → Int32) × (Nat → Int32)) => LX7_step_133 N (nI t) (nI cx) (nI cy) (nI S) 4 mr 400 z 6 m (nI c) s.1 s.2) 400
    (fun c s => s.1 0 = ab 0 ∧ s.1 5 = ab 5 + nI (cnt (fun c => pM S r cx cy c && abv mh z c) c) ∧ (∀ c', c' < c → s.2 c' = if pM S r cx cy c' && abv mh z c' then z else mh c') ∧ ∀ c', c ≤ c' → s.2 c' = mh c') (fun s => (nI 400, s.1, s.2))
    (fun m c s hc ⟨hP0, hP1, hP2, hP3⟩ => by
      by_cases hq : (pM S r cx cy c && abv mh z c) = true
      · have hp : pM S r cx cy c = true := (Bool.and_eq_true _ _ ▸ hq).1
        have e : ¬ mh c ≤ z := of_decide_eq_true (Bool.and_eq_true _ _ ▸ hq).2
        refine ⟨(upd s.1 5 (s.1 5 + 1), upd s.2 c z), ⟨?_, ?_, fun c' hc' => ?_, fun c' hc' => ?_⟩, ?_⟩
        · show upd s.1 5 (s.1 5 + 1) 0 = _
          rw [pk_un (by decide)]; exact hP0
        · show upd s.1 5 (s.1 5 + 1) 5 = _
          rw [pk_us, hP1, cnt_t hq, Int32.add_assoc, nI_1]
        · show upd s.2 c z c' = _
          by_cases e' : c' = c
          · rw [e', hq]; exact pk_us
          · rw [pk_un e']; exact hP2 c' (by omega)
        · show upd s.2 c z c' = _
          rw [pk_un (by omega)]; exact hP3 c' (by omega)
        · show LX7_step_133 N (nI t) (nI cx) (nI cy) (nI S) 4 mr 400 z 6 (m + 1) (nI c) s.1 s.2 = LX7_step_133 N (nI t) (nI cx) (nI cy) (nI S) 4 mr 400 z 6 m (nI (c + 1)) (upd s.1 5 (s.1 5 + 1)) (upd s.2 c z)
          rw [LX7_step_133, qn400, if_neg (nI_ge hc (by omega)), inDisc_spec h2 h20 ht hr hr6 hx hy hc, Option.bind_some, hp, if_neg (by decide), if_neg (nI_in hc (by omega)), nI_clamp (by omega), hP3 c (Nat.le_refl _), if_neg e, if_neg (nI_in' hc), if_neg c5, if_neg c5, nI_1]
          rfl
      · have hq' : (pM S r cx cy c && abv mh z c) = false := by simpa using hq
        refine ⟨s, ⟨hP0, ?_, fun c' hc' => ?_, fun c' hc' => hP3 c' (by omega)⟩, ?_⟩
        · rw [cnt_f hq']; exact hP1
        · by_cases e' : c' = c
          · rw [e', hP3 c (Nat.le_refl _), hq']; rfl
          · exact hP2 c' (by omega)
        · show LX7_step_133 N (nI t) (nI cx) (nI cy) (nI S) 4 mr 400 z 6 (m + 1) (nI c) s.1 s.2 = LX7_step_133 N (nI t) (nI cx) (nI cy) (nI S) 4 mr 400 z 6 m (nI (c + 1)) s.1 s.2
          rw [LX7_step_133, qn400, if_neg (nI_ge hc (by omega)), inDisc_spec h2 h20 ht hr hr6 hx hy hc, Option.bind_some]
          cases hp : pM S r cx cy c with
          | false => rw [if_pos (by decide), nI_1]
          | true =>
            have e : mh c ≤ z := Decidable.byContradiction fun hh => hq (and_t hp (abv_t hh))
            rw [if_neg (by decide), if_neg (nI_in hc (by omega)), nI_clamp (by omega), hP3 c (Nat.le_refl _), if_pos e, nI_1])
    (fun m s _ => by
      show LX7_step_133 N (nI t) (nI cx) (nI cy) (nI S) 4 mr 400 z 6 (m + 1) (nI 400) s.1 s.2 = _
      rw [LX7_step_133, qn400, if_pos (nI_le (Nat.le_refl _) (by omega))]) 0 N (ab, mh) (by omega) (by omega) ⟨rfl, by show ab 5 = ab 5 + nI 0; exact (Int32.add_zero _).symm, fun c hc => absurd hc (by omega), fun c _ => rfl⟩
  exact ⟨ab', mh', h5, h1, h3, h4⟩
/-- a step without cutting -/
theorem step_pass {S N r t cx cy : Nat} {mr mf mh mk xh d ab : Nat → Int32} {z : Int32} (hN : 1000 ≤ N) (h2 : 2 ≤ S) (h20 : S ≤ 20) (ht : t < 4) (hr : mr t = nI r) (hr6 : r ≤ 6) (hx : cx < S) (hy : cy < S) (hH : RA S xh mh) (hG : NN S mh) (hL : Lst (pX S r cx cy) (S * S) d) :
    ∃ k T ab' mh', fX1_passHere N (ab 0) z (nI (cnt (pX S r cx cy) (S * S))) (S * S) xh (S * S) d = some (k, T) ∧ fX7_step N 0 (nI cx) (nI cy) z (nI S) (nI t) 4 mr 400 mh 400 mk 6 ab 4 mf = some (k, mh', ab') ∧ ab' 0 = T ∧ ab' 5 = ab 5 ∧ RA S xh mh' ∧ NN S mh' := by
  have hm := mul_400 h20 h20
  have c0 : ¬ ((0 : Int32) < 0 ∨ 6 ≤ (0 : Int32).toNatClampNeg) := by decide
  have hst : Str S (fun c => pX S r cx cy c && abv xh z c) (fun c => pM S r cx cy c && abv mh z c) := (Str.disc h20).and (fun x y hx hy => by rw [abv, abv, hH x y hx hy])
  have hcn := hst.cnt h20
  rcases flag_c (cnt (fun c => pX S r cx cy c && abv xh z c) (S * S)) with ⟨e1, e2⟩ | ⟨e1, e2⟩
  · obtain ⟨ab', mh', a1, a2, a3, a4⟩ := mlower_spec (N := N) (ab := ab) (mh := mh) (z := z) hN h2 h20 ht hr hr6 hx hy
    rw [hcn, e1] at a3
    have same : ∀ c, c < 400 → mh' c = mh c := fun c hc => by
      rw [a4 c hc, if_neg]
      intro hh
      have := cnt_lt (p := fun c => pM S r cx cy c && abv mh z c) hc hh
      omega
    refine ⟨0, ab 0 + 1, upd ab' 0 (ab' 0 + 1), mh', ?_, ?_, by rw [pk_us, a2], by rw [pk_un (by decide), a3]; exact Int32.add_zero _, fun x y hx hy => ?_, fun x y hx hy => ?_⟩
    · rw [fX1_passHere, rises_spec hN hm hL, Option.bind_some, e2, if_pos rfl]
    · rw [fX7_step, mflags_spec hN h2 h20 ht hr hr6 hx hy, Option.bind_some, hcn, e2, if_pos rfl, if_pos rfl, JX7_step_110, if_neg (by decide), JX7_step_130, a1, Option.bind_some, if_neg c0, if_pos rfl, if_neg c0]
      rfl
    · rw [same _ (by omega)]; exact hH x y hx hy
    · rw [same _ (by omega)]; exact hG x y hx hy
  · refine ⟨1, ab 0, ab, mh, ?_, ?_, rfl, rfl, hH, hG⟩
    · rw [fX1_passHere, rises_spec hN hm hL, Option.bind_some, e2, if_neg (by decide)]
    · rw [fX7_step, mflags_spec hN h2 h20 ht hr hr6 hx hy, Option.bind_some, hcn, e2, if_pos rfl, if_neg (show ¬ (1 : Int32) = 0 by decide), if_pos rfl]
/-- a step that cuts -/
theorem step_cut {S N r t cx cy : Nat} {mr mf mh mk xh xk d ab : Nat → Int32} {z fd : Int32} (hN : 1000 ≤ N) (h2 : 2 ≤ S) (h20 : S ≤ 20) (ht : t < 4) (hr : mr t = nI r) (hr6 : r ≤ 6) (hf : fd = mf t) (hz : 0 ≤ z) (hx : cx < S) (hy : cy < S) (hH : RA S xh mh) (hG : NN S mh) (hK : RA S xk mk) (hL : Lst (pX S r cx cy) (S * S) d) :
    ∃ k T C ab' xh' mh', fX1_cutHere N (ab 0) z (ab 5) (nI (cnt (pX S r cx cy) (S * S))) fd (S * S) xk (S * S) d (S * S) xh = some (k, T, C, xh') ∧ fX7_step N 1 (nI cx) (nI cy) z (nI S) (nI t) 4 mr 400 mh 400 mk 6 ab 4 mf = some (k, mh', ab') ∧ ab' 0 = T ∧ ab' 5 = C ∧ RA S xh' mh' ∧ NN S mh' := by
  have hm := mul_400 h20 h20
  have c0 : ¬ ((0 : Int32) < 0 ∨ 6 ≤ (0 : Int32).toNatClampNeg) := by decide
  have hst : Str S (fun c => pX S r cx cy c && abv xh z c) (fun c => pM S r cx cy c && abv mh z c) := (Str.disc h20).and (fun x y hx hy => by rw [abv, abv, hH x y hx hy])
  have hst2 : Str S (fun c => pX S r cx cy c && abk xk xh z c) (fun c => pM S r cx cy c && abk mk mh z c) := (Str.disc h20).and (fun x y hx hy => by rw [abk, abk, abv, abv, hH x y hx hy, hK x y hx hy])
  have hcn := hst.cnt h20
  have hcn2 := hst2.cnt h20
  rcases flag_c (cnt (fun c => pX S r cx cy c && abk xk xh z c) (S * S)) with ⟨e1, e2⟩ | ⟨e1, e2⟩
  · obtain ⟨ab', mh', a1, a2, a3, a4⟩ := mlower_spec (N := N) (ab := ab) (mh := mh) (z := z) hN h2 h20 ht hr hr6 hx hy
    obtain ⟨xh', b1, b2⟩ := lower_spec (N := N) (h := xh) (z := z) hN hm hL
    rw [hcn] at a3
    refine ⟨0, _, _, upd ab' 0 (ab' 0 + mf t), xh', mh', ?_, ?_, by rw [pk_us, a2], by rw [pk_un (by decide), a3], fun x y hx hy => ?_, fun x y hx hy => ?_⟩
    · rw [fX1_cutHere, keptAbove_spec hN hm hL, Option.bind_some, e2, if_pos rfl, b1, Option.bind_some, hf]
    · rw [fX7_step, mflags_spec hN h2 h20 ht hr hr6 hx hy, Option.bind_some, hcn2, e2, if_neg (by decide), JX7_step_110, if_pos rfl, if_pos rfl, JX7_step_130, a1, Option.bind_some, if_neg c0, if_neg (by decide), if_neg (nI_in ht (by omega)), if_neg c0, nI_clamp (by omega)]
      rfl
    · rw [b2 _ (idx_lt hx hy (Nat.le_refl _)), a4 _ (by omega), show (pM S r cx cy (20 * y + x) && abv mh z (20 * y + x)) = _ from hst.1 x y hx hy, hH x y hx hy]
    · rw [a4 _ (by omega)]
      split
      · exact hz
      · exact hG x y hx hy
  · refine ⟨2, ab 0, ab 5, ab, xh, mh, ?_, ?_, rfl, rfl, hH, hG⟩
    · rw [fX1_cutHere, keptAbove_spec hN hm hL, Option.bind_some, e2, if_neg (by decide)]
    · rw [fX7_step, mflags_spec hN h2 h20 ht hr hr6 hx hy, Option.bind_some, hcn2, e2, if_neg (by decide), JX7_step_110, if_pos rfl, if_neg (show ¬ (1 : Int32) = 0 by decide), if_neg (by decide)]
