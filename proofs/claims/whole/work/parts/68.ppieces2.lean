/-! pieces(), the reference's flood. -/
theorem cnt_one {p : Nat → Bool} {n c : Nat} (hc : c < n) (h : p c = true) : cnt (fun c' => p c' && decide (c' = c)) n = 1 := by
  obtain ⟨m, rfl⟩ : ∃ m, n = c + (m + 1) := ⟨n - c - 1, by omega⟩
  rw [cnt_add, cnt_zero (n := c) (fun c' hc' => by rw [decide_eq_false (p := c' = c) (by omega), Bool.and_false]), show m + 1 = 1 + m from Nat.add_comm .., cnt_add, cnt_zero (n := m) (fun c' hc' => by rw [decide_eq_false (p := c + (1 + c') = c) (by omega), Bool.and_false])]
  show 0 + (cnt _ 1 + 0) = 1
  rw [cnt, cnt, if_pos]
  show (p (c + 0) && decide (c + 0 = c)) = true
  rw [Nat.add_zero, h]
  simp
theorem cnt_dwn {sn : Nat → Int32} {n c : Nat} (hc : c < n) (h : sn c = 0) : cnt (fun c' => decide (upd sn c 1 c' = 0)) n + 1 = cnt (fun c' => decide (sn c' = 0)) n := by
  have e : ∀ c', c' < n → decide (sn c' = 0) = (decide (upd sn c 1 c' = 0) || decide (c' = c)) := by
    intro c' _
    by_cases e' : c' = c
    · rw [e', h]; simp
    · rw [pk_un e', decide_eq_false e', Bool.or_false]
  rw [cnt_congr e, cnt_or, cnt_one hc]
  rw [pk_us]; decide
def TM (S : Nat) (sol : Nat → Nat → Prop) (K hi : Nat) (sn st : Nat → Int32) : Prop :=
  hi + cnt (fun c => decide (sn c = 0)) 400 = K ∧ (∀ j, j < hi → ∃ x y, x < S ∧ y < S ∧ st j = nI (20 * y + x) ∧ ¬ sn (20 * y + x) = 0 ∧ sol x y) ∧ ∀ x y, x < S → y < S → sn (20 * y + x) = 0 → sol x y
def GM (S : Nat) (sol G : Nat → Nat → Prop) (K hi : Nat) (sn st : Nat → Int32) (hi' : Nat) (sn' st' : Nat → Int32) : Prop :=
  TM S sol K hi' sn' st' ∧ hi ≤ hi' ∧ (∀ j, j < hi → st' j = st j) ∧ (∀ c, ¬ sn c = 0 → ¬ sn' c = 0) ∧ ∀ x y, x < S → y < S → ¬ sn' (20 * y + x) = 0 → sn (20 * y + x) = 0 → G x y ∧ ∃ j, hi ≤ j ∧ j < hi' ∧ st' j = nI (20 * y + x)
theorem GM.refl {S K hi : Nat} {sol G : Nat → Nat → Prop} {sn st : Nat → Int32} (h : TM S sol K hi sn st) : GM S sol G K hi sn st hi sn st := ⟨h, Nat.le_refl _, fun _ _ => rfl, fun _ h => h, fun _ _ _ _ h1 h2 => absurd h2 h1⟩
theorem GM.trans {S K hi hi' hi'' : Nat} {sol G : Nat → Nat → Prop} {sn st sn' st' sn'' st'' : Nat → Int32} (h : GM S sol G K hi sn st hi' sn' st') (h' : GM S sol G K hi' sn' st' hi'' sn'' st'') : GM S sol G K hi sn st hi'' sn'' st'' := by
  obtain ⟨a1, a2, a3, a4, a5⟩ := h
  obtain ⟨b1, b2, b3, b4, b5⟩ := h'
  refine ⟨b1, by omega, fun j hj => by rw [b3 j (by omega), a3 j hj], fun c hc => b4 c (a4 c hc), fun x y hx hy h1 h2 => ?_⟩
  by_cases e : sn' (20 * y + x) = 0
  · obtain ⟨g, j, c1, c2, c3⟩ := b5 x y hx hy h1 e
    exact ⟨g, j, by omega, c2, c3⟩
  · obtain ⟨g, j, c1, c2, c3⟩ := a5 x y hx hy e h2
    exact ⟨g, j, c1, by omega, by rw [b3 j c2, c3]⟩
theorem pushG {S N K hi dir : Nat} {k5 k6 s91 : Int32} {sol : Nat → Nat → Prop} {sn st : Nat → Int32} (G : Nat → Nat → Prop) (rec : Int32 → Int32 → (Nat → Int32) → (Nat → Int32) → Option (Int32 × Int32 × (Nat → Int32) × (Nat → Int32))) (h2 : 2 ≤ S) (h20 : S ≤ 20) (hK : K ≤ 400) (hI : TM S sol K hi sn st) (hG : ∀ x y, x < S → y < S → k5 = nI x → k6 + s91 = nI y → sol x y → G x y) :
    ∃ hi' sn' st', JX7_flood_91 rec N k5 k6 (nI S) (nI hi) (nI dir) sn st 400 400 s91 = rec (nI hi') (nI (dir + 1)) sn' st' ∧ GM S sol G K hi sn st hi' sn' st' ∧ ∀ x y, x < S → y < S → k5 = nI x → k6 + s91 = nI y → ¬ sn' (20 * y + x) = 0 := by
  rcases cell2 (N := N) (x := k5) (y := k6 + s91) h2 h20 with ⟨x, y, hx, hy, e1, e2, -, f1⟩ | ⟨hno, -, f1⟩
  · have uniq : ∀ x' y', x' < S → y' < S → k5 = nI x' → k6 + s91 = nI y' → x' = x ∧ y' = y := fun x' y' hx' hy' k1 k2 => by
      rw [e1, nI_eq (by omega) (by omega)] at k1
      rw [e2, nI_eq (by omega) (by omega)] at k2
      exact ⟨k1.symm, k2.symm⟩
    have hi20 : (20 : Int32) * (k6 + s91) + k5 = nI (20 * y + x) := by rw [e1, e2, qn20, pk_mul, nI_add]
    by_cases hs : sn (20 * y + x) = 0
    · have hun := cnt_lt (p := fun c => decide (sn c = 0)) (show 20 * y + x < 400 by omega) (decide_eq_true hs)
      have hroom : hi < 400 := by have := hI.1; omega
      have hsol := hI.2.2 x y hx hy hs
      refine ⟨hi + 1, upd sn (20 * y + x) 1, upd st hi (nI (20 * y + x)), ?_, ⟨⟨?_, fun j hj => ?_, fun u v hu hv hz => ?_⟩, by omega, fun j hj => pk_un (by omega), fun c hc => ?_, fun u v hu hv k1 k2 => ?_⟩, fun x' y' hx' hy' k1 k2 => ?_⟩
      · rw [JX7_flood_91, f1, Option.bind_some, if_neg (by decide), hi20, if_neg (nI_in (by omega) (by omega)), nI_clamp (by omega), if_pos hs, if_neg (nI_in' (by omega)), if_neg (nI_in hroom (by omega)), nI_clamp (by omega), nb1, nI_1, nI_1]
      · have h5 := cnt_dwn (n := 400) (show 20 * y + x < 400 by omega) hs
        have h6 := hI.1
        omega
      · by_cases ej : j = hi
        · subst ej
          exact ⟨x, y, hx, hy, pk_us, by rw [pk_us]; decide, hsol⟩
        · obtain ⟨u, v, c1, c2, c3, c4, c5⟩ := hI.2.1 j (by omega)
          refine ⟨u, v, c1, c2, by rw [pk_un ej, c3], ?_, c5⟩
          by_cases e : 20 * v + u = 20 * y + x
          · rw [e, pk_us]; decide
          · rw [pk_un e]; exact c4
      · by_cases e : 20 * v + u = 20 * y + x
        · rw [e, pk_us] at hz; exact absurd hz (by decide)
        · rw [pk_un e] at hz; exact hI.2.2 u v hu hv hz
      · by_cases e : c = 20 * y + x
        · rw [e, pk_us]; decide
        · rw [pk_un e]; exact hc
      · by_cases e : 20 * v + u = 20 * y + x
        · obtain ⟨rfl, rfl⟩ := idx_inj (K := 20) (by omega) (by omega) e
          exact ⟨hG u v hx hy e1 e2 hsol, hi, Nat.le_refl _, by omega, pk_us⟩
        · rw [pk_un e] at k1; exact absurd k2 k1
      · obtain ⟨rfl, rfl⟩ := uniq x' y' hx' hy' k1 k2
        rw [pk_us]; decide
    · refine ⟨hi, sn, st, ?_, GM.refl hI, fun x' y' hx' hy' k1 k2 => ?_⟩
      · rw [JX7_flood_91, f1, Option.bind_some, if_neg (by decide), hi20, if_neg (nI_in (by omega) (by omega)), nI_clamp (by omega), if_neg hs, nI_1]
      · obtain ⟨rfl, rfl⟩ := uniq x' y' hx' hy' k1 k2
        exact hs
  · refine ⟨hi, sn, st, ?_, GM.refl hI, fun x y hx hy k1 k2 => absurd ⟨x, y, hx, hy, k1, k2⟩ hno⟩
    rw [JX7_flood_91, f1, Option.bind_some, if_pos rfl, nI_1]
theorem around {S N K hi x y : Nat} {sol B : Nat → Nat → Prop} {sn st st0 : Nat → Int32} {h0 : Int32} (hN : 1000 ≤ N) (h2 : 2 ≤ S) (h20 : S ≤ 20) (hK : K ≤ 400) (hI : TM S sol K hi sn st) (hx : x < S) (hy : y < S) (hxy : KK S sol B x y) (hst : st0 (h0 + (-1)).toNatClampNeg = nI (20 * y + x)) :
    ∃ hi' sn' st', LX7_flood_33 N (nI (20 * y + x)) st0 h0 (nI S) 400 400 N (nI hi) 0 sn st = some (nI hi', nI 4, sn', st') ∧ GM S sol (KK S sol B) K hi sn st hi' sn' st' ∧ ∀ x' y', x' < S → y' < S → Adj x y x' y' → ¬ sn' (20 * y' + x') = 0 := by
  have e1 : nI (20 * y + x) - nI (20 * y + x) / 20 * 20 = nI x := by
    rw [show nI (20 * y + x) - nI (20 * y + x) / 20 * 20 = nI ((20 * y + x) % 20) from pk_rem (d := 20) (by omega) (by omega) (by omega), show (20 * y + x) % 20 = x by omega]
  have e2 : nI (20 * y + x) / 20 = nI y := by
    rw [show nI (20 * y + x) / 20 = nI ((20 * y + x) / 20) from pk_div (d := 20) (by omega) (by omega) (by omega), show (20 * y + x) / 20 = y by omega]
  have em : ∀ z, nI z + (-1) = nI z - 1 := fun z => (Int32.sub_eq_add_neg ..).symm
  obtain ⟨M, hM⟩ : ∃ M, N = M + 5 := ⟨N - 5, by omega⟩
  obtain ⟨hi1, sn1, st1, t1, g1, n1⟩ := pushG (N := N) (dir := 0) (k5 := nI x + 1) (k6 := nI y) (s91 := 0) (KK S sol B) (fun b0 b1 b2 b3 => LX7_flood_33 N (nI (20 * y + x)) st0 h0 (nI S) 400 400 (M + 4) b0 b1 b2 b3) h2 h20 hK hI (fun x' y' hx' hy' k1 k2 hs => by
    have k3 := nbr_p (by omega) (by omega) k1
    rw [Int32.add_zero, nI_eq (by omega) (by omega)] at k2
    exact KK_cl x y x' y' hx hy hx' hy' (Or.inl ⟨k3, k2.symm⟩) hs hxy)
  obtain ⟨hi2, sn2, st2, t2, g2, n2⟩ := pushG (N := N) (dir := 1) (k5 := nI x + (-1)) (k6 := nI y) (s91 := 0) (KK S sol B) (fun b0 b1 b2 b3 => LX7_flood_33 N (nI (20 * y + x)) st0 h0 (nI S) 400 400 (M + 3) b0 b1 b2 b3) h2 h20 hK g1.1 (fun x' y' hx' hy' k1 k2 hs => by
    rw [em] at k1
    have k3 := nbr_m (by omega) (by omega) k1
    rw [Int32.add_zero, nI_eq (by omega) (by omega)] at k2
    exact KK_cl x y x' y' hx hy hx' hy' (Or.inr (Or.inl ⟨k3, k2.symm⟩)) hs hxy)
  obtain ⟨hi3, sn3, st3, t3, g3, n3⟩ := pushG (N := N) (dir := 2) (k5 := nI x + 0) (k6 := nI y) (s91 := 1) (KK S sol B) (fun b0 b1 b2 b3 => LX7_flood_33 N (nI (20 * y + x)) st0 h0 (nI S) 400 400 (M + 2) b0 b1 b2 b3) h2 h20 hK g2.1 (fun x' y' hx' hy' k1 k2 hs => by
    have k3 := nbr_p (by omega) (by omega) k2
    rw [Int32.add_zero, nI_eq (by omega) (by omega)] at k1
    exact KK_cl x y x' y' hx hy hx' hy' (Or.inr (Or.inr (Or.inl ⟨k1.symm, k3⟩))) hs hxy)
  obtain ⟨hi4, sn4, st4, t4, g4, n4⟩ := pushG (N := N) (dir := 3) (k5 := nI x + 0) (k6 := nI y) (s91 := -1) (KK S sol B) (fun b0 b1 b2 b3 => LX7_flood_33 N (nI (20 * y + x)) st0 h0 (nI S) 400 400 (M + 1) b0 b1 b2 b3) h2 h20 hK g3.1 (fun x' y' hx' hy' k1 k2 hs => by
    rw [em] at k2
    have k3 := nbr_m (by omega) (by omega) k2
    rw [Int32.add_zero, nI_eq (by omega) (by omega)] at k1
    exact KK_cl x y x' y' hx hy hx' hy' (Or.inr (Or.inr (Or.inr ⟨k1.symm, k3⟩))) hs hxy)
  refine ⟨hi4, sn4, st4, ?_, ((g1.trans g2).trans g3).trans g4, fun x' y' hx' hy' hadj => ?_⟩
  · have s0 : ∀ m a b sn st, LX7_flood_33 N (nI (20 * y + x)) st0 h0 (nI S) 400 400 (m + 1) a b sn st = (if 4 ≤ b then some (a, b, sn, st) else (if b = 0 then JX7_flood_63 (fun b0 b1 b2 b3 => LX7_flood_33 N (nI (20 * y + x)) st0 h0 (nI S) 400 400 m b0 b1 b2 b3) b N (nI x) (nI (20 * y + x)) (nI S) a sn st 400 400 1 else (if b = 1 then JX7_flood_63 (fun b0 b1 b2 b3 => LX7_flood_33 N (nI (20 * y + x)) st0 h0 (nI S) 400 400 m b0 b1 b2 b3) b N (nI x) (nI (20 * y + x)) (nI S) a sn st 400 400 (-1) else JX7_flood_63 (fun b0 b1 b2 b3 => LX7_flood_33 N (nI (20 * y + x)) st0 h0 (nI S) 400 400 m b0 b1 b2 b3) b N (nI x) (nI (20 * y + x)) (nI S) a sn st 400 400 0))) := by
      intro m a b sn st
      rw [LX7_flood_33, hst, e1]
      split
      · rfl
      · rw [if_neg (by decide)]
    have hM4 : LX7_flood_33 N (nI (20 * y + x)) st0 h0 (nI S) 400 400 N (nI hi) 0 sn st = LX7_flood_33 N (nI (20 * y + x)) st0 h0 (nI S) 400 400 (M + 5) (nI hi) 0 sn st := by rw [← hM]
    have q0 : LX7_flood_33 N (nI (20 * y + x)) st0 h0 (nI S) 400 400 (M + 5) (nI hi) 0 sn st = LX7_flood_33 N (nI (20 * y + x)) st0 h0 (nI S) 400 400 (M + 4) (nI hi1) (nI 1) sn1 st1 := by
      rw [s0, if_neg (by decide), if_pos rfl, JX7_flood_63, if_neg (by decide), if_neg (by decide), if_neg (by decide), e2]
      exact t1
    have q1 : LX7_flood_33 N (nI (20 * y + x)) st0 h0 (nI S) 400 400 (M + 4) (nI hi1) (nI 1) sn1 st1 = LX7_flood_33 N (nI (20 * y + x)) st0 h0 (nI S) 400 400 (M + 3) (nI hi2) (nI 2) sn2 st2 := by
      rw [s0, if_neg (by decide), if_neg (by decide), if_pos (by decide), JX7_flood_63, if_neg (by decide), if_neg (by decide), if_neg (by decide), e2]
      exact t2
    have q2 : LX7_flood_33 N (nI (20 * y + x)) st0 h0 (nI S) 400 400 (M + 3) (nI hi2) (nI 2) sn2 st2 = LX7_flood_33 N (nI (20 * y + x)) st0 h0 (nI S) 400 400 (M + 2) (nI hi3) (nI 3) sn3 st3 := by
      rw [s0, if_neg (by decide), if_neg (by decide), if_neg (by decide), JX7_flood_63, if_neg (by decide), if_pos (by decide), e2]
      exact t3
    have q3 : LX7_flood_33 N (nI (20 * y + x)) st0 h0 (nI S) 400 400 (M + 2) (nI hi3) (nI 3) sn3 st3 = LX7_flood_33 N (nI (20 * y + x)) st0 h0 (nI S) 400 400 (M + 1) (nI hi4) (nI 4) sn4 st4 := by
      rw [s0, if_neg (by decide), if_neg (by decide), if_neg (by decide), JX7_flood_63, if_neg (by decide), if_neg (by decide), if_pos (by decide), e2]
      exact t4
    rw [hM4, q0, q1, q2, q3, s0, if_pos (by decide)]
  · rcases hadj with ⟨e3, e4⟩ | ⟨e3, e4⟩ | ⟨e3, e4⟩ | ⟨e3, e4⟩
    · exact ((g2.trans g3).trans g4).2.2.2.1 _ (n1 x' y' hx' hy' (by rw [e3, nI_1]) (by rw [e4, Int32.add_zero]))
    · exact (g3.trans g4).2.2.2.1 _ (n2 x' y' hx' hy' (by rw [em, e3]; exact pk_sub (b := 1) (by omega)) (by rw [e4, Int32.add_zero]))
    · exact g4.2.2.2.1 _ (n3 x' y' hx' hy' (by rw [e3, Int32.add_zero]) (by rw [e4, nI_1]))
    · exact n4 x' y' hx' hy' (by rw [e3, Int32.add_zero]) (by rw [em, e4]; exact pk_sub (b := 1) (by omega))
theorem flood16 {S N : Nat} {sol B : Nat → Nat → Prop} (hN : 1000 ≤ N) (h2 : 2 ≤ S) (h20 : S ≤ 20) : ∀ (K m hi : Nat) (sn st : Nat → Int32), K ≤ 400 → K < m → TM S sol K hi sn st →
    (∀ x y, x < S → y < S → ¬ sn (20 * y + x) = 0 → sol x y → KK S sol B x y) → (∀ x y, x < S → y < S → B x y → sol x y → ¬ sn (20 * y + x) = 0) →
    (∀ x y, x < S → y < S → ¬ sn (20 * y + x) = 0 → sol x y → (∃ j, j < hi ∧ st j = nI (20 * y + x)) ∨ ∀ x' y', x' < S → y' < S → Adj x y x' y' → ¬ sn (20 * y' + x') = 0) →
    ∃ r sn' st', LX7_flood_16 400 N (nI S) 400 m (nI hi) sn st = some (r, sn', st') ∧ (∀ c, ¬ sn c = 0 → ¬ sn' c = 0) ∧ (∀ x y, x < S → y < S → sn' (20 * y + x) = 0 → sol x y) ∧ ∀ x y, x < S → y < S → sol x y → (¬ sn' (20 * y + x) = 0 ↔ KK S sol B x y) := by
  intro K
  induction K with
  | zero =>
    intro m hi sn st hK hm hI hsnd hall hW
    obtain ⟨m, rfl⟩ : ∃ k, m = k + 1 := ⟨m - 1, by omega⟩
    have h0 : hi = 0 := by have := hI.1; omega
    subst h0
    refine ⟨_, sn, st, by rw [LX7_flood_16, if_pos (by decide)], fun _ h => h, hI.2.2, fun x y hx hy hs => ⟨fun hk => hsnd x y hx hy hk hs, fun hk => ?_⟩⟩
    refine KK_min (U := fun x y => x < S → y < S → ¬ sn (20 * y + x) = 0) hk (fun x y x' y' hx hy hx' hy' ha hs hu _ _ => ?_) (fun x y hx hy hB hs _ _ => hall x y hx hy hB hs) hx hy
    by_cases hz : sn (20 * y' + x') = 0
    · exact absurd hz (by
        by_cases hsx : sol x y
        · rcases hW x y hx hy (hu hx hy) hsx with ⟨j, hj, -⟩ | hc
          · exact absurd hj (Nat.not_lt_zero _)
          · exact hc x' y' hx' hy' ha
        · have := hI.1
          have h6 := cnt_lt (p := fun c => decide (sn c = 0)) (show 20 * y' + x' < 400 by omega) (decide_eq_true hz)
          omega)
    · exact hz
  | succ K ih =>
    intro m hi sn st hK hm hI hsnd hall hW
    obtain ⟨m, rfl⟩ : ∃ k, m = k + 1 := ⟨m - 1, by omega⟩
    by_cases h0 : hi = 0
    · subst h0
      refine ⟨_, sn, st, by rw [LX7_flood_16, if_pos (by decide)], fun _ h => h, hI.2.2, fun x y hx hy hs => ⟨fun hk => hsnd x y hx hy hk hs, fun hk => ?_⟩⟩
      have hU := KK_min (U := fun x y => sol x y ∧ (x < S → y < S → ¬ sn (20 * y + x) = 0)) hk (fun x y x' y' hx hy hx' hy' ha hs hu => ⟨hs, fun _ _ => by
        rcases hW x y hx hy (hu.2 hx hy) hu.1 with ⟨j, hj, -⟩ | hc
        · exact absurd hj (Nat.not_lt_zero _)
        · exact hc x' y' hx' hy' ha⟩) (fun x y hx hy hB hs => ⟨hs, fun _ _ => hall x y hx hy hB hs⟩)
      exact hU.2 hx hy
    · obtain ⟨h, rfl⟩ : ∃ h, hi = h + 1 := ⟨hi - 1, by omega⟩
      obtain ⟨x, y, hx, hy, est, esn, esol⟩ := hI.2.1 h (by omega)
      have hIp : TM S sol K h sn st := ⟨by have := hI.1; omega, fun j hj => hI.2.1 j (by omega), hI.2.2⟩
      have hh4 : h < 400 := by have := hI.1; omega
      have hst : st (nI (h + 1) + (-1)).toNatClampNeg = nI (20 * y + x) := by rw [pk_m1, nI_clamp (by omega), est]
      obtain ⟨hi', sn', st', a1, a2, a3⟩ := around (N := N) (st0 := st) (h0 := nI (h + 1)) hN h2 h20 (by omega) hIp hx hy (hsnd x y hx hy esn esol) hst
      obtain ⟨r, sn'', st'', b1, b2, b3, b4⟩ := ih m hi' sn' st' (by omega) (by omega) a2.1
        (fun u v hu hv hk hs => by
          by_cases e : sn (20 * v + u) = 0
          · exact (a2.2.2.2.2 u v hu hv hk e).1
          · exact hsnd u v hu hv e hs)
        (fun u v hu hv hB hs => a2.2.2.2.1 _ (hall u v hu hv hB hs))
        (fun u v hu hv hk hs => by
          by_cases e : sn (20 * v + u) = 0
          · obtain ⟨-, j, j1, j2, j3⟩ := a2.2.2.2.2 u v hu hv hk e
            exact Or.inl ⟨j, j2, j3⟩
          · rcases hW u v hu hv e hs with ⟨j, j1, j2⟩ | hc
            · by_cases ej : j = h
              · subst ej
                rw [est, nI_eq (by omega) (by omega)] at j2
                obtain ⟨rfl, rfl⟩ := idx_inj (K := 20) (by omega) (by omega) j2
                exact Or.inr a3
              · exact Or.inl ⟨j, by have := a2.2.1; omega, by rw [a2.2.2.1 j (by omega), j2]⟩
            · exact Or.inr (fun x' y' hx' hy' hadj => a2.2.2.2.1 _ (hc x' y' hx' hy' hadj)))
      refine ⟨r, sn'', st'', ?_, fun c hc => b2 c (a2.2.2.2.1 c hc), b3, b4⟩
      rw [LX7_flood_16, if_neg (nI_nle (by omega) (by omega)), hst, pk_m1, if_neg (nI_in (by omega) (by omega))]
      have a1' : LX7_flood_33 N (nI (20 * y + x)) st (nI (h + 1)) (nI S) 400 400 N (nI h) 0 sn st = some (nI hi', nI 4, sn', st') := a1
      rw [a1', Option.bind_some]
      exact b1
def befM (c : Nat) (u v : Nat) : Prop := 20 * v + u < c
theorem mpieces_spec {S N : Nat} {th : Int32} {mh sn st : Nat → Int32} {sol : Nat → Nat → Prop} {g : Nat → Bool} (hN : 1000 ≤ N) (h2 : 2 ≤ S) (h20 : S ≤ 20) (hsol : ∀ x y, x < S → y < S → (sol x y ↔ ¬ mh (20 * y + x) = 0)) (hg : ∀ x y, x < S → y < S → (g (20 * y + x) = true ↔ sol x y ∧ ¬ KK S sol (befM (20 * y + x)) x y)) (hg' : ∀ c, c < 400 → (S ≤ c % 20 ∨ S ≤ c / 20) → g c = false) :
    ∃ sn' st', fX7_pieces N th (nI S) 400 sn 400 mh 400 st = some (nI (cnt g 400), 0, sn', st') := by
  have ed : ∀ c, c < 400 → nI c - nI c / 20 * 20 = nI (c % 20) ∧ nI c / 20 = nI (c / 20) := fun c hc => ⟨pk_rem (d := 20) (by omega) (by omega) (by omega), pk_div (d := 20) (by omega) (by omega) (by omega)⟩
  obtain ⟨s0, z1, z2⟩ := loopI (fun m c (s : Nat → Int32) => LX7_pieces_9 N (nI S) 400 400 mh m (nI c) s) 400 (fun c s => ∀ c', c' < c → (s c' = 0 ↔ (c' % 20 < S ∧ c' / 20 < S ∧ ¬ mh c' = 0))) (fun s => (nI 400, s))
    (fun m c s hc hP => by
      have step : ∀ (w : Int32), (w = 0 ↔ (c % 20 < S ∧ c / 20 < S ∧ ¬ mh c = 0)) → ∀ c', c' < c + 1 → (upd s c w c' = 0 ↔ (c' % 20 < S ∧ c' / 20 < S ∧ ¬ mh c' = 0)) := fun w hw c' hc' => by
        by_cases e : c' = c
        · rw [e, pk_us]; exact hw
        · rw [pk_un e]; exact hP c' (by omega)
      rcases cell2 (N := N) (x := nI (c % 20)) (y := nI (c / 20)) h2 h20 with ⟨i, j, hi, hj, e3, e4, -, f1⟩ | ⟨hno, -, f1⟩
      · rw [nI_eq (by omega) (by omega)] at e3 e4
        by_cases hz : mh c = 0
        · refine ⟨upd s c 1, step 1 ⟨fun h => absurd h (by decide), fun h => absurd hz h.2.2⟩, ?_⟩
          show LX7_pieces_9 N (nI S) 400 400 mh (m + 1) (nI c) s = _
          rw [LX7_pieces_9, qn400, if_neg (nI_ge hc (by omega)), if_neg (by decide), if_neg (by decide), (ed c hc).1, (ed c hc).2, f1, Option.bind_some, if_neg (by decide), if_neg (nI_in hc (by omega)), nI_clamp (by omega), if_pos hz, if_neg (nI_in' hc), nb1, nI_1]
        · refine ⟨upd s c 0, step 0 ⟨fun _ => ⟨by omega, by omega, hz⟩, fun _ => rfl⟩, ?_⟩
          show LX7_pieces_9 N (nI S) 400 400 mh (m + 1) (nI c) s = _
          rw [LX7_pieces_9, qn400, if_neg (nI_ge hc (by omega)), if_neg (by decide), if_neg (by decide), (ed c hc).1, (ed c hc).2, f1, Option.bind_some, if_neg (by decide), if_neg (nI_in hc (by omega)), nI_clamp (by omega), if_neg hz, if_neg (nI_in' hc), nb0, nI_1]
      · refine ⟨upd s c 1, step 1 ⟨fun h => absurd h (by decide), fun h => absurd ⟨c % 20, c / 20, h.1, h.2.1, rfl, rfl⟩ hno⟩, ?_⟩
        show LX7_pieces_9 N (nI S) 400 400 mh (m + 1) (nI c) s = _
        rw [LX7_pieces_9, qn400, if_neg (nI_ge hc (by omega)), if_neg (by decide), if_neg (by decide), (ed c hc).1, (ed c hc).2, f1, Option.bind_some, if_pos rfl, if_neg (nI_in hc (by omega)), nI_clamp (by omega), nb1, nI_1])
    (fun m s _ => by
      show LX7_pieces_9 N (nI S) 400 400 mh (m + 1) (nI 400) s = _
      rw [LX7_pieces_9, qn400, if_pos (nI_le (Nat.le_refl _) (by omega))]) 0 N sn (by omega) (by omega) (fun c hc => absurd hc (by omega))
  obtain ⟨s', h1, h3⟩ := loopI (fun m c (s : (Nat → Int32) × (Nat → Int32)) => LX7_pieces_59 400 N (nI S) 400 m (nI (cnt g c)) (nI c) s.1 s.2) 400
    (fun c s => (∀ c', c' < 400 → (S ≤ c' % 20 ∨ S ≤ c' / 20) → ¬ s.1 c' = 0) ∧ (∀ x y, x < S → y < S → s.1 (20 * y + x) = 0 → sol x y) ∧ ∀ x y, x < S → y < S → sol x y → (¬ s.1 (20 * y + x) = 0 ↔ KK S sol (befM c) x y)) (fun s => (nI (cnt g 400), nI 400, s.1, s.2))
    (fun m c s hc ⟨hP1, hP2, hP3⟩ => by
      have hmono : ∀ u v, KK S sol (befM c) u v → KK S sol (befM (c + 1)) u v := fun u v hk => KK_mono hk (fun a b _ _ hb => by rw [befM] at hb ⊢; omega)
      by_cases hz : s.1 c = 0
      · have hin : c % 20 < S ∧ c / 20 < S := by
          constructor
          · exact Nat.not_le.mp fun hh => hP1 c hc (Or.inl hh) hz
          · exact Nat.not_le.mp fun hh => hP1 c hc (Or.inr hh) hz
        obtain ⟨x, y, hx, hy, rfl⟩ : ∃ x y, x < S ∧ y < S ∧ c = 20 * y + x := ⟨c % 20, c / 20, hin.1, hin.2, by omega⟩
        have hso := hP2 x y hx hy hz
        have hnk : ¬ KK S sol (befM (20 * y + x)) x y := fun hk => absurd hz ((hP3 x y hx hy hso).mpr hk)
        have hgt : g (20 * y + x) = true := (hg x y hx hy).mpr ⟨hso, hnk⟩
        have hdw := cnt_dwn (n := 400) hc hz
        have hle : cnt (fun c' => decide (s.1 c' = 0)) 400 ≤ 400 := cnt_le _ _
        obtain ⟨r, sn', st', b1, b2, b3, b4⟩ := flood16 (N := N) (sol := sol) (B := befM (20 * y + x + 1)) hN h2 h20 (1 + cnt (fun c' => decide (upd s.1 (20 * y + x) 1 c' = 0)) 400) N 1 (upd s.1 (20 * y + x) 1) (upd s.2 0 (nI (20 * y + x))) (by omega) (by omega)
          ⟨rfl, fun j hj => ⟨x, y, hx, hy, by rw [show j = 0 by omega, pk_us], by rw [pk_us]; decide, hso⟩, fun u v hu hv hk => by
            by_cases e : 20 * v + u = 20 * y + x
            · rw [e, pk_us] at hk; exact absurd hk (by decide)
            · rw [pk_un e] at hk; exact hP2 u v hu hv hk⟩
          (fun u v hu hv hk hs => by
            by_cases e : 20 * v + u = 20 * y + x
            · obtain ⟨rfl, rfl⟩ := idx_inj (K := 20) (by omega) (by omega) e
              exact KK_seed hx hy (by rw [befM]; omega) hso
            · rw [pk_un e] at hk
              exact hmono u v ((hP3 u v hu hv hs).mp hk))
          (fun u v hu hv hB hs => by
            by_cases e : 20 * v + u = 20 * y + x
            · rw [e, pk_us]; decide
            · rw [pk_un e]
              exact (hP3 u v hu hv hs).mpr (KK_seed hu hv (by rw [befM] at hB ⊢; omega) hs))
          (fun u v hu hv hk hs => by
            by_cases e : 20 * v + u = 20 * y + x
            · exact Or.inl ⟨0, by omega, by rw [pk_us, e]⟩
            · rw [pk_un e] at hk
              refine Or.inr (fun a b ha hb hadj => ?_)
              by_cases e' : 20 * b + a = 20 * y + x
              · rw [e', pk_us]; decide
              · rw [pk_un e']
                by_cases hab : sol a b
                · exact (hP3 a b ha hb hab).mpr (KK_cl u v a b hu hv ha hb hadj hab ((hP3 u v hu hv hs).mp hk))
                · exact fun hh => hab (hP2 a b ha hb hh))
        refine ⟨(sn', st'), ⟨fun c' hc' ho => b2 c' ?_, b3, b4⟩, ?_⟩
        · by_cases e : c' = 20 * y + x
          · rw [e, pk_us]; decide
          · rw [pk_un e]; exact hP1 c' hc' ho
        · show LX7_pieces_59 400 N (nI S) 400 (m + 1) (nI (cnt g (20 * y + x))) (nI (20 * y + x)) s.1 s.2 = _
          have hfl : fX7_flood N (nI (20 * y + x)) (nI S) 400 s.2 400 s.1 = some (st', sn') := by
            rw [fX7_flood, if_neg (by decide), if_neg (nI_in hc (by omega)), nI_clamp (by omega), nb1, show LX7_flood_16 400 N (nI S) 400 N 1 (upd s.1 (20 * y + x) 1) (upd s.2 (0 : Int32).toNatClampNeg (nI (20 * y + x))) = _ from b1, Option.bind_some]
          rw [LX7_pieces_59, qn400, if_neg (nI_ge hc (by omega)), if_neg (nI_in hc (by omega)), nI_clamp (by omega), if_pos hz, hfl, Option.bind_some, nI_1, nI_1, cnt_t hgt]
      · have hgf : g c = false := by
          by_cases ho : S ≤ c % 20 ∨ S ≤ c / 20
          · exact hg' c hc ho
          · obtain ⟨x, y, hx, hy, rfl⟩ : ∃ x y, x < S ∧ y < S ∧ c = 20 * y + x := ⟨c % 20, c / 20, by omega, by omega, by omega⟩
            cases hh : g (20 * y + x) with
            | false => rfl
            | true =>
              obtain ⟨k1, k2⟩ := (hg x y hx hy).mp hh
              exact absurd ((hP3 x y hx hy k1).mp hz) k2
        refine ⟨s, ⟨hP1, hP2, fun x y hx hy hs => ⟨fun hk => hmono x y ((hP3 x y hx hy hs).mp hk), fun hk => (hP3 x y hx hy hs).mpr (KK_same hk (fun a b ha hb hbf hsab => ?_))⟩⟩, ?_⟩
        · by_cases e : 20 * b + a = c
          · refine Or.inr ((hP3 a b ha hb hsab).mp ?_)
            rw [e]; exact hz
          · exact Or.inl (by rw [befM] at hbf ⊢; omega)
        · show LX7_pieces_59 400 N (nI S) 400 (m + 1) (nI (cnt g c)) (nI c) s.1 s.2 = _
          rw [LX7_pieces_59, qn400, if_neg (nI_ge hc (by omega)), if_neg (nI_in hc (by omega)), nI_clamp (by omega), if_neg hz, nI_1, cnt_f hgf])
    (fun m s _ => by
      show LX7_pieces_59 400 N (nI S) 400 (m + 1) (nI (cnt g 400)) (nI 400) s.1 s.2 = _
      rw [LX7_pieces_59, qn400, if_pos (nI_le (Nat.le_refl _) (by omega))]) 0 N (s0, st) (by omega) (by omega)
      ⟨fun c hc ho hz => by have := (z1 c hc).mp hz; omega, fun x y hx hy hz => (hsol x y hx hy).mpr ((z1 _ (by omega)).mp hz).2.2, fun x y hx hy hs => ⟨fun hk => absurd ((z1 _ (by omega)).mpr ⟨by omega, by omega, (hsol x y hx hy).mp hs⟩) hk, fun hk => (KK_min (U := fun _ _ => False) hk (fun _ _ _ _ _ _ _ _ _ _ h => h) (fun a b _ _ hb _ => by rw [befM] at hb; omega)).elim⟩⟩
  refine ⟨s'.1, s'.2, ?_⟩
  rw [fX7_pieces, show LX7_pieces_9 N (nI S) 400 400 mh N 0 sn = _ from z2, Option.bind_some, show LX7_pieces_59 400 N (nI S) 400 N 0 0 s0 st = _ from h3, Option.bind_some]
theorem pu_pieces {S N : Nat} {th q0 : Int32} {xh mh tk qx qy sn st : Nat → Int32} (hN : 1000 ≤ N) (h2 : 2 ≤ S) (h20 : S ≤ 20) (hH : RA S xh mh) (hG : NN S mh) :
    ∃ v q' tk' qx' qy' sn' st', fX6_pieces N (nI S) (nI (S * S)) q0 (nI S) (S * S) tk (S * S) xh (S * S) qx (S * S) qy = some (v, q', tk', qx', qy') ∧ fX7_pieces N th (nI S) 400 sn 400 mh 400 st = some (v, 0, sn', st') := by
  obtain ⟨f, hf⟩ : ∃ f : Nat → Bool, ∀ c, f c = true ↔ solX S xh (c % S) (c / S) ∧ ¬ KK S (solX S xh) (bef S (c % S) (c / S)) (c % S) (c / S) := ⟨fun c => @decide _ (Classical.propDecidable (solX S xh (c % S) (c / S) ∧ ¬ KK S (solX S xh) (bef S (c % S) (c / S)) (c % S) (c / S))), fun c => @decide_eq_true_iff _ (Classical.propDecidable _)⟩
  have hf1 : ∀ x y, x < S → y < S → (f (S * y + x) = true ↔ solX S xh x y ∧ ¬ KK S (solX S xh) (bef S x y) x y) := fun x y hx hy => by
    have e1 : (S * y + x) % S = x := by rw [Nat.mul_add_mod, Nat.mod_eq_of_lt hx]
    have e2 : (S * y + x) / S = y := by rw [Nat.mul_add_div (by omega), Nat.div_eq_of_lt hx, Nat.add_zero]
    rw [hf, e1, e2]
  have lex : ∀ x y u v, x < S → y < S → u < S → v < S → (bef S x y u v ↔ befM (20 * y + x) u v) := by
    intro x y u v hx hy hu hv
    rw [bef, befM]
    by_cases e : v < y
    · have h1 : S * (v + 1) ≤ S * y := Nat.mul_le_mul_left S e
      rw [Nat.mul_succ] at h1
      omega
    · by_cases e' : y < v
      · have h1 : S * (y + 1) ≤ S * v := Nat.mul_le_mul_left S e'
        rw [Nat.mul_succ] at h1
        omega
      · have : v = y := by omega
        subst this
        omega
  obtain ⟨q', tk', qx', qy', a1⟩ := count_spec (N := N) (q0 := q0) (tk := tk) (qx := qx) (qy := qy) hN h2 h20 hf1
  have hst : Str S f (fun c => inG S c && f (S * (c / 20) + c % 20)) := by
    refine ⟨fun x y hx hy => ?_, fun c hc ho => ?_⟩
    · show (inG S (20 * y + x) && f (S * ((20 * y + x) / 20) + (20 * y + x) % 20)) = _
      rw [show inG S (20 * y + x) = true from and_t (decide_eq_true (by omega)) (decide_eq_true (by omega)), show (20 * y + x) / 20 = y by omega, show (20 * y + x) % 20 = x by omega, Bool.true_and]
    · rcases ho with h | h
      · exact and_f1 (and_f1 (decide_eq_false (by omega)))
      · exact and_f1 (and_f2 (decide_eq_false (by omega)))
  obtain ⟨sn', st', b1⟩ := mpieces_spec (N := N) (th := th) (mh := mh) (sn := sn) (st := st) (sol := solX S xh) (g := fun c => inG S c && f (S * (c / 20) + c % 20)) hN h2 h20
    (fun x y hx hy => by
      rw [solX, hH x y hx hy]
      constructor
      · intro h e; exact h (by rw [e]; exact Int32.le_refl _)
      · intro h e; exact h (Int32.le_antisymm e (hG x y hx hy)))
    (fun x y hx hy => by
      rw [show (inG S (20 * y + x) && f (S * ((20 * y + x) / 20) + (20 * y + x) % 20)) = f (S * y + x) from hst.1 x y hx hy, hf1 x y hx hy]
      constructor
      · rintro ⟨k1, k2⟩
        exact ⟨k1, fun hk => k2 (KK_mono hk (fun a b ha hb h => (lex x y a b hx hy ha hb).mpr h))⟩
      · rintro ⟨k1, k2⟩
        exact ⟨k1, fun hk => k2 (KK_mono hk (fun a b ha hb h => (lex x y a b hx hy ha hb).mp h))⟩)
    hst.2
  rw [hst.cnt h20] at b1
  exact ⟨_, q', tk', qx', qy', sn', st', a1, b1⟩
