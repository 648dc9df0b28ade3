/-! pieces(): the cells that hang together with earlier ones, and the queue. -/
def Adj (x y x' y' : Nat) : Prop := (x' = x + 1 ∧ y' = y) ∨ (x = x' + 1 ∧ y' = y) ∨ (x' = x ∧ y' = y + 1) ∨ (x' = x ∧ y = y' + 1)
def Cl (S : Nat) (sol U : Nat → Nat → Prop) : Prop := ∀ x y x' y', x < S → y < S → x' < S → y' < S → Adj x y x' y' → sol x' y' → U x y → U x' y'
/-- what hangs together with a cell of B -/
def KK (S : Nat) (sol B : Nat → Nat → Prop) (x y : Nat) : Prop := sol x y ∧ ∀ U : Nat → Nat → Prop, Cl S sol U → (∀ x y, x < S → y < S → B x y → sol x y → U x y) → U x y
theorem KK_seed {S x y : Nat} {sol B : Nat → Nat → Prop} (hx : x < S) (hy : y < S) (hB : B x y) (hs : sol x y) : KK S sol B x y := ⟨hs, fun _ _ hU => hU x y hx hy hB hs⟩
theorem KK_cl {S : Nat} {sol B : Nat → Nat → Prop} : Cl S sol (KK S sol B) := fun x y x' y' hx hy hx' hy' ha hs h => ⟨hs, fun U hU hB => hU x y x' y' hx hy hx' hy' ha hs (h.2 U hU hB)⟩
theorem KK_min {S x y : Nat} {sol B U : Nat → Nat → Prop} (h : KK S sol B x y) (hU : Cl S sol U) (hB : ∀ x y, x < S → y < S → B x y → sol x y → U x y) : U x y := h.2 U hU hB
theorem KK_mono {S x y : Nat} {sol B B' : Nat → Nat → Prop} (h : KK S sol B x y) (hB : ∀ x y, x < S → y < S → B x y → B' x y) : KK S sol B' x y := ⟨h.1, fun U hU hB' => h.2 U hU (fun x y hx hy hb hs => hB' x y hx hy (hB x y hx hy hb) hs)⟩
/-- one more cell that is not solid, or hangs together already, adds nothing -/
theorem KK_same {S x y : Nat} {sol B B' : Nat → Nat → Prop} (h : KK S sol B' x y) (hB : ∀ x y, x < S → y < S → B' x y → sol x y → B x y ∨ KK S sol B x y) : KK S sol B x y := KK_min h KK_cl (fun x y hx hy hb hs => by
  rcases hB x y hx hy hb hs with h | h
  · exact KK_seed hx hy h hs
  · exact h)
def TI (S q : Nat) (tk qx qy : Nat → Int32) : Prop := q = cnt (fun c => decide (¬ tk c = 0)) (S * S) ∧ ∀ j, j < q → ∃ x y, x < S ∧ y < S ∧ qx j = nI x ∧ qy j = nI y ∧ ¬ tk (S * y + x) = 0
theorem cnt_room {p : Nat → Bool} {n c : Nat} (hc : c < n) (h : p c = false) : cnt p n < n := by
  have h1 := cnt_or p (fun c => !p c) n
  have h2 : cnt (fun c => p c || !p c) n ≤ n := cnt_le _ _
  have h3 := cnt_lt (p := fun c => !p c && !p c) hc (by rw [h]; rfl)
  omega
theorem cnt_upd {tk : Nat → Int32} {n c : Nat} (hc : c < n) (h : tk c = 0) : cnt (fun c' => decide (¬ upd tk c 1 c' = 0)) n = cnt (fun c' => decide (¬ tk c' = 0)) n + 1 := by
  have e : ∀ c', c' < n → decide (¬ upd tk c 1 c' = 0) = (decide (¬ tk c' = 0) || decide (c' = c)) := by
    intro c' _
    by_cases e' : c' = c
    · rw [e', pk_us]; simp
    · rw [pk_un e', decide_eq_false e', Bool.or_false]
  rw [cnt_congr e, cnt_or]
  congr 1
  obtain ⟨m, rfl⟩ : ∃ m, n = c + (m + 1) := ⟨n - c - 1, by omega⟩
  rw [cnt_add, cnt_zero (n := c) (fun c' hc' => by rw [decide_eq_false (p := c' = c) (by omega), Bool.and_false]), show m + 1 = 1 + m from Nat.add_comm .., cnt_add, cnt_zero (n := m) (fun c' hc' => by rw [decide_eq_false (p := c + (1 + c') = c) (by omega), Bool.and_false])]
  show 0 + (cnt _ 1 + 0) = 1
  rw [cnt, cnt, if_pos]
  show (!decide (¬ tk (c + 0) = 0) && decide (c + 0 = c)) = true
  rw [Nat.add_zero, h]
  simp
def solX (S : Nat) (h : Nat → Int32) (x y : Nat) : Prop := ¬ h (S * y + x) ≤ 0
/-- the queue grows by cells of G -/
def Gr (S : Nat) (G : Nat → Nat → Prop) (q : Nat) (tk qx qy : Nat → Int32) (q' : Nat) (tk' qx' qy' : Nat → Int32) : Prop :=
  TI S q' tk' qx' qy' ∧ q ≤ q' ∧ (∀ j, j < q → qx' j = qx j ∧ qy' j = qy j) ∧ (∀ c, ¬ tk c = 0 → ¬ tk' c = 0) ∧ ∀ x y, x < S → y < S → ¬ tk' (S * y + x) = 0 → tk (S * y + x) = 0 → G x y ∧ ∃ j, q ≤ j ∧ j < q' ∧ qx' j = nI x ∧ qy' j = nI y
theorem Gr.refl {S q : Nat} {G : Nat → Nat → Prop} {tk qx qy : Nat → Int32} (h : TI S q tk qx qy) : Gr S G q tk qx qy q tk qx qy := ⟨h, Nat.le_refl _, fun _ _ => ⟨rfl, rfl⟩, fun _ h => h, fun _ _ _ _ h1 h2 => absurd h2 h1⟩
theorem Gr.trans {S q q' q'' : Nat} {G : Nat → Nat → Prop} {tk qx qy tk' qx' qy' tk'' qx'' qy'' : Nat → Int32} (h : Gr S G q tk qx qy q' tk' qx' qy') (h' : Gr S G q' tk' qx' qy' q'' tk'' qx'' qy'') : Gr S G q tk qx qy q'' tk'' qx'' qy'' := by
  obtain ⟨a1, a2, a3, a4, a5⟩ := h
  obtain ⟨b1, b2, b3, b4, b5⟩ := h'
  refine ⟨b1, by omega, fun j hj => ⟨by rw [(b3 j (by omega)).1, (a3 j hj).1], by rw [(b3 j (by omega)).2, (a3 j hj).2]⟩, fun c hc => b4 c (a4 c hc), fun x y hx hy h1 h2 => ?_⟩
  by_cases e : tk' (S * y + x) = 0
  · obtain ⟨g, j, c1, c2, c3, c4⟩ := b5 x y hx hy h1 e
    exact ⟨g, j, by omega, c2, c3, c4⟩
  · obtain ⟨g, j, c1, c2, c3, c4⟩ := a5 x y hx hy e h2
    exact ⟨g, j, c1, by omega, by rw [(b3 j c2).1, c3], by rw [(b3 j c2).2, c4]⟩
theorem take_spec {S N q : Nat} {a2 a3 : Int32} {tk h qx qy : Nat → Int32} (h2 : 2 ≤ S) (h20 : S ≤ 20) (hI : TI S q tk qx qy) :
    (fX2_take N a2 a3 (nI (S * S)) (nI q) (nI S) (S * S) tk (S * S) h (S * S) qx (S * S) qy = some (nI q, tk, qx, qy) ∧ ∀ x y, x < S → y < S → a2 = nI x → a3 = nI y → solX S h x y → ¬ tk (S * y + x) = 0) ∨
    ∃ x y, x < S ∧ y < S ∧ a2 = nI x ∧ a3 = nI y ∧ solX S h x y ∧ tk (S * y + x) = 0 ∧ fX2_take N a2 a3 (nI (S * S)) (nI q) (nI S) (S * S) tk (S * S) h (S * S) qx (S * S) qy = some (nI (q + 1), upd tk (S * y + x) 1, upd qx q (nI x), upd qy q (nI y)) ∧ TI S (q + 1) (upd tk (S * y + x) 1) (upd qx q (nI x)) (upd qy q (nI y)) := by
  have hm := mul_400 h20 h20
  obtain ⟨hq, hQ⟩ := hI
  have hql : q ≤ S * S := by rw [hq]; exact cnt_le _ _
  rcases cell2 (N := N) (x := a2) (y := a3) h2 h20 with ⟨x, y, hx, hy, rfl, rfl, e1, -⟩ | ⟨hno, e1, -⟩
  · have hi := idx_lt (K := S) (S := S) (x := x) (y := y) hx hy (Nat.le_refl _)
    have uniq : ∀ x' y', x' < S → y' < S → nI x = nI x' → nI y = nI y' → x' = x ∧ y' = y := fun x' y' hx' hy' k1 k2 => by
      rw [nI_eq (by omega) (by omega)] at k1 k2
      exact ⟨k1.symm, k2.symm⟩
    by_cases ht : tk (S * y + x) = 0
    · have hroom : q < S * S := by
        rw [hq]; exact cnt_room hi (decide_eq_false (fun hh => hh ht))
      by_cases hs : h (S * y + x) ≤ 0
      · refine Or.inl ⟨?_, fun x' y' hx' hy' k1 k2 hs' => ?_⟩
        · rw [fX2_take, e1, Option.bind_some, if_neg (by decide), if_pos (nI_lt hroom (by omega)), fX0_placeOf, Option.bind_some, pk_mul, nI_add, if_neg (nI_in hi (by omega)), nI_clamp (by omega), if_pos ht, if_neg (nI_in'n hi (by omega)), if_pos hs]
        · obtain ⟨rfl, rfl⟩ := uniq x' y' hx' hy' k1 k2
          exact absurd hs hs'
      · refine Or.inr ⟨x, y, hx, hy, rfl, rfl, hs, ht, ?_, ?_, ?_⟩
        · rw [fX2_take, e1, Option.bind_some, if_neg (by decide), if_pos (nI_lt hroom (by omega)), fX0_placeOf, Option.bind_some, pk_mul, nI_add, if_neg (nI_in hi (by omega)), nI_clamp (by omega), if_pos ht, if_neg (nI_in'n hi (by omega)), if_neg hs, if_neg (nI_in'n hi (by omega)), nI_clamp (by omega), if_neg (nI_in'n hroom (by omega)), if_neg (nI_in'n hroom (by omega)), nb1, nI_1]
        · rw [cnt_upd hi ht, ← hq]
        · intro j hj
          by_cases ej : j = q
          · subst ej
            exact ⟨x, y, hx, hy, pk_us, pk_us, by rw [pk_us]; decide⟩
          · obtain ⟨x', y', b1, b2, b3, b4, b5⟩ := hQ j (by omega)
            refine ⟨x', y', b1, b2, by rw [pk_un ej, b3], by rw [pk_un ej, b4], ?_⟩
            rw [pk_un (fun hh => by rw [hh] at b5; exact b5 ht)]
            exact b5
    · refine Or.inl ⟨?_, fun x' y' hx' hy' k1 k2 hs' => ?_⟩
      · rw [fX2_take, e1, Option.bind_some, if_neg (by decide)]
        by_cases hroom : q < S * S
        · rw [if_pos (nI_lt hroom (by omega)), fX0_placeOf, Option.bind_some, pk_mul, nI_add, if_neg (nI_in hi (by omega)), nI_clamp (by omega), if_neg ht]
        · rw [if_neg (nI_nlt (by omega) (by omega))]
      · obtain ⟨rfl, rfl⟩ := uniq x' y' hx' hy' k1 k2
        exact ht
  · refine Or.inl ⟨?_, fun x y hx hy k1 k2 _ => absurd ⟨x, y, hx, hy, k1, k2⟩ hno⟩
    rw [fX2_take, e1, Option.bind_some, if_pos rfl]
theorem takeG {S N q : Nat} {a2 a3 : Int32} {tk h qx qy : Nat → Int32} (G : Nat → Nat → Prop) (h2 : 2 ≤ S) (h20 : S ≤ 20) (hI : TI S q tk qx qy) (hG : ∀ x y, x < S → y < S → a2 = nI x → a3 = nI y → solX S h x y → G x y) :
    ∃ q' tk' qx' qy', fX2_take N a2 a3 (nI (S * S)) (nI q) (nI S) (S * S) tk (S * S) h (S * S) qx (S * S) qy = some (nI q', tk', qx', qy') ∧ Gr S G q tk qx qy q' tk' qx' qy' ∧ ∀ x y, x < S → y < S → a2 = nI x → a3 = nI y → solX S h x y → ¬ tk' (S * y + x) = 0 := by
  rcases take_spec (N := N) (a2 := a2) (a3 := a3) (h := h) h2 h20 hI with ⟨e1, e2⟩ | ⟨x, y, hx, hy, e1, e2, e3, e4, e5, e6⟩
  · exact ⟨q, tk, qx, qy, e1, Gr.refl hI, e2⟩
  · refine ⟨q + 1, _, _, _, e5, ⟨e6, by omega, fun j hj => ⟨pk_un (by omega), pk_un (by omega)⟩, fun c hc => ?_, fun x' y' hx' hy' k1 k2 => ?_⟩, fun x' y' hx' hy' k1 k2 _ => ?_⟩
    · by_cases e : c = S * y + x
      · rw [e, pk_us]; decide
      · rw [pk_un e]; exact hc
    · by_cases e : S * y' + x' = S * y + x
      · obtain ⟨rfl, rfl⟩ := idx_inj hx' hx e
        exact ⟨hG x' y' hx hy e1 e2 e3, q, Nat.le_refl _, by omega, pk_us, pk_us⟩
      · rw [pk_un e] at k1; exact absurd k2 k1
    · rw [e1, nI_eq (by omega) (by omega)] at k1
      rw [e2, nI_eq (by omega) (by omega)] at k2
      subst k1 k2
      rw [pk_us]; decide
theorem nbr_m {x x' : Nat} (hx : x < 100) (hx' : x' < 100) (h : nI x - 1 = nI x') : x = x' + 1 := by
  by_cases e : x = 0
  · subst e
    exact absurd h.symm (nI_nm1 (by omega))
  · rw [show nI x - 1 = nI (x - 1) from pk_sub (b := 1) (by omega), nI_eq (by omega) (by omega)] at h
    omega
theorem nbr_p {x x' : Nat} (hx : x < 100) (hx' : x' < 100) (h : nI x + 1 = nI x') : x' = x + 1 := by
  rw [nI_1, nI_eq (by omega) (by omega)] at h
  omega
/-- a taken cell waits in the queue, or all its solid neighbours are taken -/
def Wk (S nx q : Nat) (h tk qx qy : Nat → Int32) : Prop := ∀ x y, x < S → y < S → ¬ tk (S * y + x) = 0 → (∃ j, nx ≤ j ∧ j < q ∧ qx j = nI x ∧ qy j = nI y) ∨ ∀ x' y', x' < S → y' < S → Adj x y x' y' → solX S h x' y' → ¬ tk (S * y' + x') = 0
theorem spread_spec {S N q nx : Nat} {tk h qx qy : Nat → Int32} (B : Nat → Nat → Prop) (hN : 1000 ≤ N) (h2 : 2 ≤ S) (h20 : S ≤ 20) (hI : TI S q tk qx qy) (hnx : nx ≤ S * S) (hsnd : ∀ x y, x < S → y < S → ¬ tk (S * y + x) = 0 → KK S (solX S h) B x y) (hall : ∀ x y, x < S → y < S → B x y → solX S h x y → ¬ tk (S * y + x) = 0) (hW : Wk S nx q h tk qx qy) :
    ∃ q' tk' qx' qy', fX2_spread N (nI nx) (nI (S * S)) (nI q) (nI S) (S * S) qx (S * S) qy (S * S) tk (S * S) h = some (nI q', qx', qy', tk') ∧ TI S q' tk' qx' qy' ∧ ∀ x y, x < S → y < S → (¬ tk' (S * y + x) = 0 ↔ KK S (solX S h) B x y) := by
  have hm := mul_400 h20 h20
  obtain ⟨r, ⟨q', i', tk', qx', qy', rfl, h1, h3⟩, h4⟩ := loopE (fun m a (s : Nat × (Nat → Int32) × (Nat → Int32) × (Nat → Int32)) => LX2_spread_2 (nI (S * S)) (S * S) (S * S) N (nI S) (S * S) (S * S) h m (nI a) s.2.2.1 s.2.2.2 (nI s.1) s.2.1) (S * S)
    (fun a s => TI S s.1 s.2.1 s.2.2.1 s.2.2.2 ∧ (∀ x y, x < S → y < S → ¬ s.2.1 (S * y + x) = 0 → KK S (solX S h) B x y) ∧ (∀ x y, x < S → y < S → B x y → solX S h x y → ¬ s.2.1 (S * y + x) = 0) ∧ Wk S a s.1 h s.2.1 s.2.2.1 s.2.2.2)
    (fun r => ∃ q' i' tk' qx' qy', r = (i', qx', qy', nI q', tk') ∧ TI S q' tk' qx' qy' ∧ ∀ x y, x < S → y < S → (¬ tk' (S * y + x) = 0 ↔ KK S (solX S h) B x y))
    (fun m a s ha ⟨hP1, hP2, hP3, hP4⟩ => by
      obtain ⟨q, tk, qx, qy⟩ := s
      dsimp only at hP1 hP2 hP3 hP4
      have hql : q ≤ S * S := by rw [hP1.1]; exact cnt_le _ _
      by_cases hqa : q ≤ a
      · refine Or.inr ⟨(nI a, qx, qy, nI q, tk), ⟨q, nI a, tk, qx, qy, rfl, hP1, fun x y hx hy => ⟨hP2 x y hx hy, fun hk => ?_⟩⟩, ?_⟩
        · refine KK_min (U := fun x y => x < S → y < S → ¬ tk (S * y + x) = 0) hk (fun x y x' y' hx hy hx' hy' ha hs hu _ _ => ?_) (fun x y hx hy hB hs _ _ => hP3 x y hx hy hB hs) hx hy
          rcases hP4 x y hx hy (hu hx hy) with ⟨j, j1, j2, -⟩ | hcl
          · exact absurd (show j < q from j2) (by omega)
          · exact hcl x' y' hx' hy' ha hs
        · show LX2_spread_2 (nI (S * S)) (S * S) (S * S) N (nI S) (S * S) (S * S) h (m + 1) (nI a) qx qy (nI q) tk = _
          rw [LX2_spread_2, if_pos (nI_le hqa (by omega))]
      · obtain ⟨x, y, hx, hy, ex, ey, etk⟩ := hP1.2 a (show a < q by omega)
        have hK : KK S (solX S h) B x y := hP2 x y hx hy etk
        have ex' : qx a = nI x := ex
        have ey' : qy a = nI y := ey
        obtain ⟨q1, tk1, qx1, qy1, t1, g1, n1⟩ := takeG (N := N) (a2 := nI x - 1) (a3 := nI y) (h := h) (KK S (solX S h) B) h2 h20 hP1 (fun x' y' hx' hy' k1 k2 hs => by
          have k3 := nbr_m (by omega) (by omega) k1
          rw [nI_eq (by omega) (by omega)] at k2
          exact KK_cl x y x' y' hx hy hx' hy' (Or.inr (Or.inl ⟨k3, k2.symm⟩)) hs hK)
        obtain ⟨q2, tk2, qx2, qy2, t2, g2, n2⟩ := takeG (N := N) (a2 := nI x + 1) (a3 := nI y) (h := h) (KK S (solX S h) B) h2 h20 g1.1 (fun x' y' hx' hy' k1 k2 hs => by
          have k3 := nbr_p (by omega) (by omega) k1
          rw [nI_eq (by omega) (by omega)] at k2
          exact KK_cl x y x' y' hx hy hx' hy' (Or.inl ⟨k3, k2.symm⟩) hs hK)
        obtain ⟨q3, tk3, qx3, qy3, t3, g3, n3⟩ := takeG (N := N) (a2 := nI x) (a3 := nI y - 1) (h := h) (KK S (solX S h) B) h2 h20 g2.1 (fun x' y' hx' hy' k1 k2 hs => by
          have k3 := nbr_m (by omega) (by omega) k2
          rw [nI_eq (by omega) (by omega)] at k1
          exact KK_cl x y x' y' hx hy hx' hy' (Or.inr (Or.inr (Or.inr ⟨k1.symm, k3⟩))) hs hK)
        obtain ⟨q4, tk4, qx4, qy4, t4, g4, n4⟩ := takeG (N := N) (a2 := nI x) (a3 := nI y + 1) (h := h) (KK S (solX S h) B) h2 h20 g3.1 (fun x' y' hx' hy' k1 k2 hs => by
          have k3 := nbr_p (by omega) (by omega) k2
          rw [nI_eq (by omega) (by omega)] at k1
          exact KK_cl x y x' y' hx hy hx' hy' (Or.inr (Or.inr (Or.inl ⟨k1.symm, k3⟩))) hs hK)
        have gg := ((g1.trans g2).trans g3).trans g4
        have near : ∀ x' y', x' < S → y' < S → Adj x y x' y' → solX S h x' y' → ¬ tk4 (S * y' + x') = 0 := by
          intro x' y' hx' hy' hadj hs
          rcases hadj with ⟨e1, e2⟩ | ⟨e1, e2⟩ | ⟨e1, e2⟩ | ⟨e1, e2⟩
          · exact (g3.trans g4).2.2.2.1 _ (n2 x' y' hx' hy' (by rw [e1, nI_1]) (by rw [e2]) hs)
          · exact ((g2.trans g3).trans g4).2.2.2.1 _ (n1 x' y' hx' hy' (by rw [e1]; exact pk_sub (b := 1) (by omega)) (by rw [e2]) hs)
          · exact n4 x' y' hx' hy' (by rw [e1]) (by rw [e2, nI_1]) hs
          · exact g4.2.2.2.1 _ (n3 x' y' hx' hy' (by rw [e1]) (by rw [e2]; exact pk_sub (b := 1) (by omega)) hs)
        refine Or.inl ⟨(q4, tk4, qx4, qy4), ⟨gg.1, fun u v hu hv hk => ?_, fun u v hu hv hB hs => gg.2.2.2.1 _ (hP3 u v hu hv hB hs), fun u v hu hv hk => ?_⟩, ?_⟩
        · by_cases e : tk (S * v + u) = 0
          · exact (gg.2.2.2.2 u v hu hv hk e).1
          · exact hP2 u v hu hv e
        · by_cases e : tk (S * v + u) = 0
          · obtain ⟨-, j, j1, j2, j3, j4⟩ := gg.2.2.2.2 u v hu hv hk e
            exact Or.inl ⟨j, by omega, j2, j3, j4⟩
          · rcases hP4 u v hu hv e with ⟨j, j1, j2, j3, j4⟩ | hcl
            · have j2' : j < q := j2
              have j3' : qx j = nI u := j3
              have j4' : qy j = nI v := j4
              by_cases ej : j = a
              · subst ej
                rw [ex', nI_eq (by omega) (by omega)] at j3'
                rw [ey', nI_eq (by omega) (by omega)] at j4'
                subst j3' j4'
                exact Or.inr near
              · refine Or.inl ⟨j, by omega, ?_, ?_, ?_⟩
                · have := gg.2.1; show j < q4; omega
                · show qx4 j = _; rw [(gg.2.2.1 j j2').1, j3']
                · show qy4 j = _; rw [(gg.2.2.1 j j2').2, j4']
            · exact Or.inr (fun x' y' hx' hy' hadj hs => gg.2.2.2.1 _ (hcl x' y' hx' hy' hadj hs))
        · show LX2_spread_2 (nI (S * S)) (S * S) (S * S) N (nI S) (S * S) (S * S) h (m + 1) (nI a) qx qy (nI q) tk = LX2_spread_2 (nI (S * S)) (S * S) (S * S) N (nI S) (S * S) (S * S) h m (nI (a + 1)) qx4 qy4 (nI q4) tk4
          rw [LX2_spread_2, if_neg (nI_ge (by omega) (by omega)), if_neg (nI_ge ha (by omega)), if_neg (nI_in ha (by omega)), if_neg (nI_in ha (by omega)), nI_clamp (by omega), ex', ey', t1, Option.bind_some, t2, Option.bind_some, t3, Option.bind_some, t4, Option.bind_some, nI_1])
    (fun m s ⟨hP1, hP2, hP3, hP4⟩ => by
      obtain ⟨q, tk, qx, qy⟩ := s
      dsimp only at hP1 hP2 hP3 hP4
      have hql : q ≤ S * S := by rw [hP1.1]; exact cnt_le _ _
      refine ⟨(nI (S * S), qx, qy, nI q, tk), ⟨q, nI (S * S), tk, qx, qy, rfl, hP1, fun x y hx hy => ⟨hP2 x y hx hy, fun hk => ?_⟩⟩, ?_⟩
      · refine KK_min (U := fun x y => x < S → y < S → ¬ tk (S * y + x) = 0) hk (fun x y x' y' hx hy hx' hy' ha hs hu _ _ => ?_) (fun x y hx hy hB hs _ _ => hP3 x y hx hy hB hs) hx hy
        rcases hP4 x y hx hy (hu hx hy) with ⟨j, j1, j2, -⟩ | hcl
        · exact absurd (show j < q from j2) (by omega)
        · exact hcl x' y' hx' hy' ha hs
      · show LX2_spread_2 (nI (S * S)) (S * S) (S * S) N (nI S) (S * S) (S * S) h (m + 1) (nI (S * S)) qx qy (nI q) tk = _
        rw [LX2_spread_2, if_pos (nI_le hql (by omega))]) (S * S - nx) N nx (q, tk, qx, qy) (by omega) (by omega) ⟨hI, hsnd, hall, hW⟩
  refine ⟨q', tk', qx', qy', ?_, h1, h3⟩
  rw [fX2_spread, show LX2_spread_2 (nI (S * S)) (S * S) (S * S) N (nI S) (S * S) (S * S) h N (nI nx) qx qy (nI q) tk = _ from h4, Option.bind_some]
def bef (K x y : Nat) (u v : Nat) : Prop := K * v + u < K * y + x
theorem count_spec {S N : Nat} {q0 : Int32} {tk h qx qy : Nat → Int32} {f : Nat → Bool} (hN : 1000 ≤ N) (h2 : 2 ≤ S) (h20 : S ≤ 20) (hf : ∀ x y, x < S → y < S → (f (S * y + x) = true ↔ solX S h x y ∧ ¬ KK S (solX S h) (bef S x y) x y)) :
    ∃ q' tk' qx' qy', fX6_pieces N (nI S) (nI (S * S)) q0 (nI S) (S * S) tk (S * S) h (S * S) qx (S * S) qy = some (nI (cnt f (S * S)), q', tk', qx', qy') := by
  have hm := mul_400 h20 h20
  have inner : ∀ y, y < S → ∀ (s : Nat × (Nat → Int32) × (Nat → Int32) × (Nat → Int32)), (TI S s.1 s.2.1 s.2.2.1 s.2.2.2 ∧ ∀ u v, u < S → v < S → (¬ s.2.1 (S * v + u) = 0 ↔ KK S (solX S h) (bef S 0 y) u v)) →
      ∃ s' : Nat × (Nat → Int32) × (Nat → Int32) × (Nat → Int32), (TI S s'.1 s'.2.1 s'.2.2.1 s'.2.2.2 ∧ ∀ u v, u < S → v < S → (¬ s'.2.1 (S * v + u) = 0 ↔ KK S (solX S h) (bef S 0 (y + 1)) u v)) ∧
        LX2_count_43 (nI S) N (nI y) (nI (S * S)) (nI S) (S * S) (S * S) h (S * S) (S * S) N (nI (cnt f (S * y))) 0 s.2.2.1 s.2.2.2 (nI s.1) s.2.1 = some (nI (cnt f (S * (y + 1))), nI S, s'.2.2.1, s'.2.2.2, nI s'.1, s'.2.1) := by
    intro y hy s hs
    obtain ⟨s', h1, h3⟩ := loopI (fun m x (s : Nat × (Nat → Int32) × (Nat → Int32) × (Nat → Int32)) => LX2_count_43 (nI S) N (nI y) (nI (S * S)) (nI S) (S * S) (S * S) h (S * S) (S * S) m (nI (cnt f (S * y + x))) (nI x) s.2.2.1 s.2.2.2 (nI s.1) s.2.1) S
      (fun x s => TI S s.1 s.2.1 s.2.2.1 s.2.2.2 ∧ ∀ u v, u < S → v < S → (¬ s.2.1 (S * v + u) = 0 ↔ KK S (solX S h) (bef S x y) u v)) (fun s => (nI (cnt f (S * y + S)), nI S, s.2.2.1, s.2.2.2, nI s.1, s.2.1))
      (fun m x s hx ⟨hP1, hP2⟩ => by
        obtain ⟨q, tk, qx, qy⟩ := s
        dsimp only at hP1 hP2
        have hql : q ≤ S * S := by rw [hP1.1]; exact cnt_le _ _
        have hgo : ∀ u v, u < S → v < S → bef S (x + 1) y u v → bef S x y u v ∨ (u = x ∧ v = y) := by
          intro u v hu hv hb
          by_cases e : S * v + u = S * y + x
          · exact Or.inr (idx_inj hu hx e)
          · exact Or.inl (by rw [bef] at hb ⊢; omega)
        rcases take_spec (N := N) (a2 := nI x) (a3 := nI y) (h := h) h2 h20 hP1 with ⟨e1, e2⟩ | ⟨x', y', hx', hy', k1, k2, e3, e4, e5, e6⟩
        · have hin : solX S h x y → KK S (solX S h) (bef S x y) x y := fun hs => (hP2 x y hx hy).mp (e2 x y hx hy rfl rfl hs)
          have hff : f (S * y + x) = false := by
            cases hh : f (S * y + x) with
            | false => rfl
            | true => exact absurd (hin ((hf x y hx hy).mp hh).1) ((hf x y hx hy).mp hh).2
          refine ⟨(q, tk, qx, qy), ⟨hP1, fun u v hu hv => ⟨fun hk => KK_mono ((hP2 u v hu hv).mp hk) (fun a b _ _ hb => by rw [bef] at hb ⊢; omega), fun hk => (hP2 u v hu hv).mpr (KK_same hk (fun a b ha hb hbf hsol => ?_))⟩⟩, ?_⟩
          · rcases hgo a b ha hb hbf with h | ⟨rfl, rfl⟩
            · exact Or.inl h
            · exact Or.inr (hin hsol)
          · show LX2_count_43 (nI S) N (nI y) (nI (S * S)) (nI S) (S * S) (S * S) h (S * S) (S * S) (m + 1) (nI (cnt f (S * y + x))) (nI x) qx qy (nI q) tk = _
            have e1' : fX2_take N (nI x) (nI y) (nI (S * S)) (nI q) (nI S) (S * S) tk (S * S) h (S * S) qx (S * S) qy = some (nI q, tk, qx, qy) := e1
            rw [LX2_count_43, if_neg (nI_ge hx (by omega)), e1', Option.bind_some, if_pos (nI_le (Nat.le_refl _) (by omega)), nI_1, ← Nat.add_assoc, cnt_f hff]
        · rw [nI_eq (by omega) (by omega)] at k1 k2
          subst k1 k2
          have hnk : ¬ KK S (solX S h) (bef S x y) x y := fun hk => absurd e4 ((hP2 x y hx hy).mpr hk)
          have hft : f (S * y + x) = true := (hf x y hx hy).mpr ⟨e3, hnk⟩
          have hmono : ∀ u v, KK S (solX S h) (bef S x y) u v → KK S (solX S h) (bef S (x + 1) y) u v := fun u v hk => KK_mono hk (fun a b _ _ hb => by rw [bef] at hb ⊢; omega)
          obtain ⟨q', tk', qx', qy', g1, g2, g3⟩ := spread_spec (N := N) (nx := q) (h := h) (bef S (x + 1) y) hN h2 h20 e6 hql
            (fun u v hu hv hk => by
              by_cases e : S * v + u = S * y + x
              · obtain ⟨rfl, rfl⟩ := idx_inj hu hx e
                exact KK_seed hx hy (by rw [bef]; omega) e3
              · rw [pk_un e] at hk
                exact hmono u v ((hP2 u v hu hv).mp hk))
            (fun u v hu hv hb hs => by
              rcases hgo u v hu hv hb with hb' | ⟨rfl, rfl⟩
              · by_cases e : S * v + u = S * y + x
                · rw [e, pk_us]; decide
                · rw [pk_un e]
                  exact (hP2 u v hu hv).mpr (KK_seed hu hv hb' hs)
              · rw [pk_us]; decide)
            (fun u v hu hv hk => by
              by_cases e : S * v + u = S * y + x
              · obtain ⟨rfl, rfl⟩ := idx_inj hu hx e
                exact Or.inl ⟨q, Nat.le_refl _, by omega, pk_us, pk_us⟩
              · rw [pk_un e] at hk
                refine Or.inr (fun a b ha hb hadj hs => ?_)
                by_cases e' : S * b + a = S * y + x
                · rw [e', pk_us]; decide
                · rw [pk_un e']
                  exact (hP2 a b ha hb).mpr (KK_cl u v a b hu hv ha hb hadj hs ((hP2 u v hu hv).mp hk)))
          refine ⟨(q', tk', qx', qy'), ⟨g2, g3⟩, ?_⟩
          show LX2_count_43 (nI S) N (nI y) (nI (S * S)) (nI S) (S * S) (S * S) h (S * S) (S * S) (m + 1) (nI (cnt f (S * y + x))) (nI x) qx qy (nI q) tk = _
          have e5' : fX2_take N (nI x) (nI y) (nI (S * S)) (nI q) (nI S) (S * S) tk (S * S) h (S * S) qx (S * S) qy = some (nI (q + 1), upd tk (S * y + x) 1, upd qx q (nI x), upd qy q (nI y)) := e5
          rw [LX2_count_43, if_neg (nI_ge hx (by omega)), e5', Option.bind_some, if_neg (nI_ge (by omega) (by omega)), g1, Option.bind_some, nI_1, nI_1, ← Nat.add_assoc, cnt_t hft])
      (fun m s _ => by
        show LX2_count_43 (nI S) N (nI y) (nI (S * S)) (nI S) (S * S) (S * S) h (S * S) (S * S) (m + 1) (nI (cnt f (S * y + S))) (nI S) s.2.2.1 s.2.2.2 (nI s.1) s.2.1 = _
        rw [LX2_count_43, if_pos (nI_le (Nat.le_refl _) (by omega))]) 0 N s (by omega) (by omega) hs
    rw [← Nat.mul_succ] at h3
    refine ⟨s', ⟨h1.1, fun u v hu hv => ?_⟩, h3⟩
    rw [h1.2 u v hu hv]
    have hb : ∀ a b, bef S S y a b ↔ bef S 0 (y + 1) a b := fun a b => by rw [bef, bef, Nat.mul_succ, Nat.add_zero]
    exact ⟨fun hk => KK_mono hk (fun a b _ _ h => (hb a b).mp h), fun hk => KK_mono hk (fun a b _ _ h => (hb a b).mpr h)⟩
  obtain ⟨tk0, z1, z2⟩ := loopI (fun m a f => LX2_count_2 (nI (S * S)) (S * S) m (nI a) f) (S * S) (fun a f => ∀ c, c < a → f c = 0) (fun f => (nI (S * S), f)) (fun m a f ha hP => by
    refine ⟨upd f a 0, fun c hc => ?_, ?_⟩
    · by_cases e : c = a
      · subst e; exact pk_us
      · rw [pk_un e]; exact hP c (by omega)
    · show LX2_count_2 (nI (S * S)) (S * S) (m + 1) (nI a) f = _
      rw [LX2_count_2, if_neg (nI_ge ha (by omega)), if_neg (nI_in ha (by omega)), nI_clamp (by omega), nb0, nI_1]) (fun m f _ => by show LX2_count_2 (nI (S * S)) (S * S) (m + 1) (nI (S * S)) f = _; rw [LX2_count_2, if_pos (nI_le (Nat.le_refl _) (by omega))]) 0 N tk (by omega) (by omega) (fun c hc => absurd hc (by omega))
  have hc0 : cnt (fun c => decide (¬ tk0 c = 0)) (S * S) = 0 := cnt_zero (fun c hc => decide_eq_false (fun hh => hh (z1 c hc)))
  obtain ⟨s', h1, h3⟩ := loopI (fun m y (s : Nat × (Nat → Int32) × (Nat → Int32) × (Nat → Int32)) => LX2_count_32 (nI S) N (nI (S * S)) (nI S) (S * S) (S * S) h (S * S) (S * S) m (nI (cnt f (S * y))) (nI y) s.2.2.1 s.2.2.2 (nI s.1) s.2.1) S
    (fun y s => TI S s.1 s.2.1 s.2.2.1 s.2.2.2 ∧ ∀ u v, u < S → v < S → (¬ s.2.1 (S * v + u) = 0 ↔ KK S (solX S h) (bef S 0 y) u v)) (fun s => (nI (cnt f (S * S)), nI S, s.2.2.1, s.2.2.2, nI s.1, s.2.1))
    (fun m y s hy hP => by
      obtain ⟨s', i1, i2⟩ := inner y hy s hP
      refine ⟨s', i1, ?_⟩
      show LX2_count_32 (nI S) N (nI (S * S)) (nI S) (S * S) (S * S) h (S * S) (S * S) (m + 1) (nI (cnt f (S * y))) (nI y) s.2.2.1 s.2.2.2 (nI s.1) s.2.1 = _
      rw [LX2_count_32, if_neg (nI_ge hy (by omega)), i2, Option.bind_some, nI_1])
    (fun m s _ => by
      show LX2_count_32 (nI S) N (nI (S * S)) (nI S) (S * S) (S * S) h (S * S) (S * S) (m + 1) (nI (cnt f (S * S))) (nI S) s.2.2.1 s.2.2.2 (nI s.1) s.2.1 = _
      rw [LX2_count_32, if_pos (nI_le (Nat.le_refl _) (by omega))]) 0 N (0, tk0, qx, qy) (by omega) (by omega) ⟨⟨hc0.symm, fun j hj => absurd hj (Nat.not_lt_zero _)⟩, fun u v hu hv => ⟨fun hk => absurd (z1 _ (idx_lt hu hv (Nat.le_refl _))) hk, fun hk => (KK_min (U := fun _ _ => False) hk (fun _ _ _ _ _ _ _ _ _ _ h => h) (fun a b _ _ hb _ => by rw [bef] at hb; omega)).elim⟩⟩
  refine ⟨nI s'.1, s'.2.1, s'.2.2.1, s'.2.2.2, ?_⟩
  rw [fX6_pieces, fX2_count, show LX2_count_2 (nI (S * S)) (S * S) N 0 tk = _ from z2, Option.bind_some, show LX2_count_32 (nI S) N (nI (S * S)) (nI S) (S * S) (S * S) h (S * S) (S * S) N 0 0 qx qy 0 tk0 = _ from h3, Option.bind_some, Option.bind_some]
