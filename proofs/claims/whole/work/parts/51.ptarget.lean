theorem cell1 {S N : Nat} {x : Int32} (h2 : 2 ≤ S) (h20 : S ≤ 20) : (∃ j, j < S ∧ x = nI j ∧ fX7_isIn N x 0 (nI S - 1) = some 1) ∨ ((x < 0 ∨ nI S ≤ x) ∧ ¬ (∃ j, j < S ∧ x = nI j) ∧ fX7_isIn N x 0 (nI S - 1) = some 0) := by
  rw [show nI S - 1 = nI (S - 1) from pk_sub (b := 1) (by omega)]
  rcases pk_ix x (n := S) (by omega) with h | h | ⟨j, hj, rfl⟩
  · refine Or.inr ⟨Or.inl h, ?_, ?_⟩
    · rintro ⟨j, hj, rfl⟩
      exact absurd h (nI_pos (by omega))
    · rw [fX7_isIn, if_pos h]
  · have h1 := h
    rw [Int32.le_iff_toInt_le, nI_toInt (by omega)] at h1
    refine Or.inr ⟨Or.inr h, ?_, ?_⟩
    · rintro ⟨j, hj, rfl⟩
      rw [nI_toInt (by omega)] at h1
      omega
    · have e1 : ¬ x < 0 := by rw [Int32.lt_iff_toInt_lt, Int32.toInt_zero]; omega
      have e2 : nI (S - 1) < x := by rw [Int32.lt_iff_toInt_lt, nI_toInt (by omega)]; omega
      rw [fX7_isIn, if_neg e1, if_pos e2]
  · exact Or.inl ⟨j, hj, rfl, by rw [fX7_isIn, if_neg (nI_pos (by omega)), if_neg (nI_nlt (by omega) (by omega))]⟩
/-- a cell of the grid, as both sides see it -/
theorem cell2 {S N : Nat} {x y : Int32} (h2 : 2 ≤ S) (h20 : S ≤ 20) : (∃ i j, i < S ∧ j < S ∧ x = nI i ∧ y = nI j ∧ fX0_holds N x y (nI S) = some 1 ∧ fX7_isCell N x y (nI S) = some 1) ∨ (¬ (∃ i j, i < S ∧ j < S ∧ x = nI i ∧ y = nI j) ∧ fX0_holds N x y (nI S) = some 0 ∧ fX7_isCell N x y (nI S) = some 0) := by
  rcases cell1 (N := N) (x := x) h2 h20 with ⟨i, hi, rfl, e1⟩ | ⟨h, hn, e1⟩
  · rcases cell1 (N := N) (x := y) h2 h20 with ⟨j, hj, rfl, e2⟩ | ⟨h, hn, e2⟩
    · refine Or.inl ⟨i, j, hi, hj, rfl, rfl, ?_, ?_⟩
      · rw [fX0_holds, if_neg (nI_pos (by omega)), if_neg (nI_ge hi (by omega)), if_neg (nI_pos (by omega)), if_neg (nI_ge hj (by omega))]
      · rw [fX7_isCell, e1, Option.bind_some, if_neg (by decide), e2, Option.bind_some, if_neg (by decide)]
    · refine Or.inr ⟨fun ⟨i', j', _, h4, _, h6⟩ => hn ⟨j', h4, h6⟩, ?_, ?_⟩
      · rw [fX0_holds, if_neg (nI_pos (by omega)), if_neg (nI_ge hi (by omega))]
        rcases h with h | h
        · rw [if_pos h]
        · by_cases h0 : y < 0
          · rw [if_pos h0]
          · rw [if_neg h0, if_pos h]
      · rw [fX7_isCell, e1, Option.bind_some, if_neg (by decide), e2, Option.bind_some, if_pos rfl]
  · refine Or.inr ⟨fun ⟨i', j', h3, _, h5, _⟩ => hn ⟨i', h3, h5⟩, ?_, ?_⟩
    · rw [fX0_holds]
      rcases h with h | h
      · rw [if_pos h]
      · by_cases h0 : x < 0
        · rw [if_pos h0]
        · rw [if_neg h0, if_pos h]
    · rw [fX7_isCell, e1, Option.bind_some, if_pos rfl]
theorem block_spec {S N : Nat} {a1 a2 a3 a4 : Int32} (h2 : 2 ≤ S) (h20 : S ≤ 20) :
    (fX6_demandBlock N a1 a2 a3 a4 (nI S) = some (.inl 0) ∧ ∀ g, fX7_spanFault N a1 a2 a3 a4 g (nI S) = some 1) ∨
    (fX6_demandBlock N a1 a2 a3 a4 (nI S) = some (.inl 1) ∧ ∀ g, fX7_spanFault N a1 a2 a3 a4 g (nI S) = some 2) ∨
    ∃ x0 y0 x1 y1, x0 ≤ x1 ∧ x1 < S ∧ y0 ≤ y1 ∧ y1 < S ∧ a1 = nI x0 ∧ a2 = nI y0 ∧ a3 = nI x1 ∧ a4 = nI y1 ∧ fX6_demandBlock N a1 a2 a3 a4 (nI S) = some (.inr ()) ∧ fX7_spanFault N a1 a2 a3 a4 0 (nI S) = some 2 ∧ ∀ g, ¬ g = 0 → fX7_spanFault N a1 a2 a3 a4 g (nI S) = some 0 := by
  rcases cell2 (N := N) (x := a1) (y := a2) h2 h20 with ⟨x0, y0, hx0, hy0, rfl, rfl, e1, f1⟩ | ⟨-, e1, f1⟩
  · rcases cell2 (N := N) (x := a3) (y := a4) h2 h20 with ⟨x1, y1, hx1, hy1, rfl, rfl, e2, f2⟩ | ⟨-, e2, f2⟩
    · have d1 : fX6_demandCell N (nI x0) (nI y0) (nI S) = some (.inr ()) := by rw [fX6_demandCell, e1, Option.bind_some, if_neg (by decide)]
      have d2 : fX6_demandCell N (nI x1) (nI y1) (nI S) = some (.inr ()) := by rw [fX6_demandCell, e2, Option.bind_some, if_neg (by decide)]
      by_cases hx : x1 < x0
      · refine Or.inr (Or.inl ⟨?_, fun g => ?_⟩)
        · rw [fX6_demandBlock, d1, Option.bind_some, Sum.elim_inr, d2, Option.bind_some, Sum.elim_inr, if_pos (nI_lt hx (by omega))]
        · rw [fX7_spanFault, f1, Option.bind_some, if_neg (by decide), f2, Option.bind_some, if_neg (by decide), if_pos (nI_lt hx (by omega))]
      · by_cases hy : y1 < y0
        · refine Or.inr (Or.inl ⟨?_, fun g => ?_⟩)
          · rw [fX6_demandBlock, d1, Option.bind_some, Sum.elim_inr, d2, Option.bind_some, Sum.elim_inr, if_neg (nI_nlt (by omega) (by omega)), if_neg (nI_ge hy (by omega))]
          · rw [fX7_spanFault, f1, Option.bind_some, if_neg (by decide), f2, Option.bind_some, if_neg (by decide), if_neg (nI_nlt (by omega) (by omega)), if_pos (nI_lt hy (by omega))]
        · refine Or.inr (Or.inr ⟨x0, y0, x1, y1, by omega, hx1, by omega, hy1, rfl, rfl, rfl, rfl, ?_, ?_, fun g hg => ?_⟩)
          · rw [fX6_demandBlock, d1, Option.bind_some, Sum.elim_inr, d2, Option.bind_some, Sum.elim_inr, if_neg (nI_nlt (by omega) (by omega)), if_pos (nI_le (by omega) (by omega))]
          · rw [fX7_spanFault, f1, Option.bind_some, if_neg (by decide), f2, Option.bind_some, if_neg (by decide), if_neg (nI_nlt (by omega) (by omega)), if_neg (nI_nlt (by omega) (by omega)), if_pos rfl]
          · rw [fX7_spanFault, f1, Option.bind_some, if_neg (by decide), f2, Option.bind_some, if_neg (by decide), if_neg (nI_nlt (by omega) (by omega)), if_neg (nI_nlt (by omega) (by omega)), if_neg hg]
    · refine Or.inl ⟨?_, fun g => ?_⟩
      · rw [fX6_demandBlock, fX6_demandCell, e1, Option.bind_some, if_neg (by decide), Option.bind_some, Sum.elim_inr, fX6_demandCell, e2, Option.bind_some, if_pos rfl, Option.bind_some, Sum.elim_inl]
      · rw [fX7_spanFault, f1, Option.bind_some, if_neg (by decide), f2, Option.bind_some, if_pos rfl]
  · refine Or.inl ⟨?_, fun g => ?_⟩
    · rw [fX6_demandBlock, fX6_demandCell, e1, Option.bind_some, if_pos rfl, Option.bind_some, Sum.elim_inl]
    · rw [fX7_spanFault, f1, Option.bind_some, if_pos rfl]
theorem aim_spec {S N x0 y0 x1 y1 : Nat} {v : Int32} {t : Nat → Int32} (h2 : 2 ≤ S) (h20 : S ≤ 20) (hN : 1000 ≤ N) (hx : x0 ≤ x1) (hx1 : x1 < S) (hy : y0 ≤ y1) (hy1 : y1 < S) :
    ∃ t', Blk S S x0 y0 x1 y1 v t t' ∧ fX0_aimBlock N (nI x0) (nI y0) (nI x1) (nI y1) v (nI S) (S * S) t = some t' := by
  obtain ⟨t', h1, h3⟩ := fill2 (K := S) (S := S) (x0 := x0) (y0 := y0) (x1 := x1) (y1 := y1) (N := N) (v := v) (t := t) (Nat.le_refl _) hx1 hy1 hx hy hN h20
    (fun y n a t => LX0_aimBlock_13 (nI x1) N (nI y) (nI S) (S * S) v n (nI a) t) (fun n y t => LX0_aimBlock_3 (nI y1) (nI x1) N (nI S) (S * S) v (nI x0) n (nI y) t)
    (fun y n a t hy' ha => by
      have hi := idx_lt (K := S) (S := S) (x := a) (y := y) (by omega) (by omega) (Nat.le_refl _)
      have hm := mul_400 h20 h20
      rw [LX0_aimBlock_13, if_neg (nI_nlt ha (by omega)), fX0_placeOf, Option.bind_some, pk_mul, nI_add, if_neg (nI_in hi (by omega)), nI_clamp (by omega), nI_1])
    (fun y n t hy' => by rw [LX0_aimBlock_13, if_pos (nI_lt (by omega) (by omega))])
    (fun n y t hy' => by rw [LX0_aimBlock_3, if_neg (nI_nlt hy' (by omega)), nI_1])
    (fun n t => by rw [LX0_aimBlock_3, if_pos (nI_lt (by omega) (by omega))])
  exact ⟨t', h1, by rw [fX0_aimBlock, h3]; rfl⟩
theorem guard_spec {S N x0 y0 x1 y1 : Nat} {v : Int32} {t : Nat → Int32} (h2 : 2 ≤ S) (h20 : S ≤ 20) (hN : 1000 ≤ N) (hx : x0 ≤ x1) (hx1 : x1 < S) (hy : y0 ≤ y1) (hy1 : y1 < S) :
    ∃ t', Blk S S x0 y0 x1 y1 (vp_nar .boolean v) t t' ∧ fX0_guardBlock N (nI x0) (nI y0) (nI x1) (nI y1) v (nI S) (S * S) t = some t' := by
  obtain ⟨t', h1, h3⟩ := fill2 (K := S) (S := S) (x0 := x0) (y0 := y0) (x1 := x1) (y1 := y1) (N := N) (v := vp_nar .boolean v) (t := t) (Nat.le_refl _) hx1 hy1 hx hy hN h20
    (fun y n a t => LX0_guardBlock_13 (nI x1) N (nI y) (nI S) (S * S) v n (nI a) t) (fun n y t => LX0_guardBlock_3 (nI y1) (nI x1) N (nI S) (S * S) v (nI x0) n (nI y) t)
    (fun y n a t hy' ha => by
      have hi := idx_lt (K := S) (S := S) (x := a) (y := y) (by omega) (by omega) (Nat.le_refl _)
      have hm := mul_400 h20 h20
      rw [LX0_guardBlock_13, if_neg (nI_nlt ha (by omega)), fX0_placeOf, Option.bind_some, pk_mul, nI_add, if_neg (nI_in hi (by omega)), nI_clamp (by omega), nI_1])
    (fun y n t hy' => by rw [LX0_guardBlock_13, if_pos (nI_lt (by omega) (by omega))])
    (fun n y t hy' => by rw [LX0_guardBlock_3, if_neg (nI_nlt hy' (by omega)), nI_1])
    (fun n t => by rw [LX0_guardBlock_3, if_pos (nI_lt (by omega) (by omega))])
  exact ⟨t', h1, by rw [fX0_guardBlock, h3]; rfl⟩
theorem mtgt_loop {S N x0 y0 x1 y1 : Nat} {v : Int32} {t : Nat → Int32} (h2 : 2 ≤ S) (h20 : S ≤ 20) (hN : 1000 ≤ N) (hx : x0 ≤ x1) (hx1 : x1 < S) (hy : y0 ≤ y1) (hy1 : y1 < S) :
    ∃ t', Blk 20 S x0 y0 x1 y1 v t t' ∧ LX7_target_24 0 (nI y1) (nI x1) 400 v N (nI x0) N (nI y0) t = some (nI (y1 + 1), t') :=
  fill2 (K := 20) (S := S) (x0 := x0) (y0 := y0) (x1 := x1) (y1 := y1) (N := N) (v := v) (t := t) h20 hx1 hy1 hx hy hN h20
    (fun y n a t => LX7_target_41 (nI x1) (nI y) 400 v n (nI a) t) (fun n y t => LX7_target_24 0 (nI y1) (nI x1) 400 v N (nI x0) n (nI y) t)
    (fun y n a t hy' ha => by
      rw [LX7_target_41, if_neg (nI_nlt ha (by omega)), qn20, pk_mul, nI_add, if_neg (nI_in (by omega) (by omega)), nI_clamp (by omega), nI_1])
    (fun y n t hy' => by rw [LX7_target_41, if_pos (nI_lt (by omega) (by omega))])
    (fun n y t hy' => by rw [LX7_target_24, if_pos rfl, if_neg (nI_nlt hy' (by omega)), nI_1])
    (fun n t => by rw [LX7_target_24, if_pos rfl, if_pos (nI_lt (by omega) (by omega))])
theorem mkeep_loop {S N x0 y0 x1 y1 : Nat} {v : Int32} {t : Nat → Int32} (h2 : 2 ≤ S) (h20 : S ≤ 20) (hN : 1000 ≤ N) (hx : x0 ≤ x1) (hx1 : x1 < S) (hy : y0 ≤ y1) (hy1 : y1 < S) :
    ∃ t', Blk 20 S x0 y0 x1 y1 (vp_nar .boolean v) t t' ∧ LX7_keep_17 0 (nI y1) (nI x1) 400 v N (nI x0) N (nI y0) t = some (nI (y1 + 1), t') :=
  fill2 (K := 20) (S := S) (x0 := x0) (y0 := y0) (x1 := x1) (y1 := y1) (N := N) (v := vp_nar .boolean v) (t := t) h20 hx1 hy1 hx hy hN h20
    (fun y n a t => LX7_keep_34 (nI x1) (nI y) 400 v n (nI a) t) (fun n y t => LX7_keep_17 0 (nI y1) (nI x1) 400 v N (nI x0) n (nI y) t)
    (fun y n a t hy' ha => by
      rw [LX7_keep_34, if_neg (nI_nlt ha (by omega)), qn20, pk_mul, nI_add, if_neg (nI_in (by omega) (by omega)), nI_clamp (by omega), nI_1])
    (fun y n t hy' => by rw [LX7_keep_34, if_pos (nI_lt (by omega) (by omega))])
    (fun n y t hy' => by rw [LX7_keep_17, if_pos rfl, if_neg (nI_nlt hy' (by omega)), nI_1])
    (fun n t => by rw [LX7_keep_17, if_pos rfl, if_pos (nI_lt (by omega) (by omega))])
theorem Blk.RA {S x0 y0 x1 y1 : Nat} {v : Int32} {f f' g g' : Nat → Int32} (h : RA S f g) (h1 : Blk S S x0 y0 x1 y1 v f f') (h2 : Blk 20 S x0 y0 x1 y1 v g g') : RA S f' g' := fun x y hx hy => by
  rw [h1 x y hx hy, h2 x y hx hy, h x y hx hy]
theorem Blk.NN {S x0 y0 x1 y1 : Nat} {v : Int32} {g g' : Nat → Int32} (h : NN S g) (hv : 0 ≤ v) (h2 : Blk 20 S x0 y0 x1 y1 v g g') : NN S g' := fun x y hx hy => by
  rw [h2 x y hx hy]
  split
  · exact hv
  · exact h x y hx hy
theorem pos_le {n : Nat} {x : Int32} (hx : ¬ x < 0) : 0 ≤ x := by
  rw [Int32.lt_iff_toInt_lt] at hx
  rw [Int32.le_iff_toInt_le]
  omega
theorem pu_target {S N : Nat} {a1 a2 a3 a4 a5 th : Int32} {f g : Nat → Int32} (h2 : 2 ≤ S) (h20 : S ≤ 20) (hN : 1000 ≤ N) (hR : RA S f g) (hG : NN S g) :
    ∃ k f' g', fL_target N a1 a2 a3 a4 a5 (nI S) (S * S) f = some (k, f') ∧ fX7_target N a1 a2 a3 a4 a5 th (nI S) 400 g = some (k, g') ∧ RA S f' g' ∧ NN S g' := by
  have bad : ∀ (k : Int32), ¬ k = 0 → ∀ (a : Int32) (t : Nat → Int32), LX7_target_24 k a4 a3 400 a5 N a1 N a t = some (a, t) := fun k hk a t => by
    obtain ⟨N', rfl⟩ : ∃ N', N = N' + 1 := ⟨N - 1, by omega⟩
    rw [LX7_target_24, if_neg hk]
  obtain ⟨r, hr⟩ : ∃ r, fX7_isIn N a5 0 100 = some r := by unfold fX7_isIn; split; exact ⟨_, rfl⟩; split <;> exact ⟨_, rfl⟩
  rcases block_spec (N := N) (a1 := a1) (a2 := a2) (a3 := a3) (a4 := a4) h2 h20 with ⟨e1, e2⟩ | ⟨e1, e2⟩ | ⟨x0, y0, x1, y1, hx, hx1, hy, hy1, rfl, rfl, rfl, rfl, e1, e2, e3⟩
  · refine ⟨1, f, g, ?_, ?_, hR, hG⟩
    · rw [fL_target, fX6_target, e1, Option.bind_some, Sum.elim_inl, Option.bind_some, Sum.elim_inl, if_pos rfl]
    · rw [fX7_target, hr, Option.bind_some, e2, Option.bind_some, bad 1 (by decide), Option.bind_some]
  · refine ⟨2, f, g, ?_, ?_, hR, hG⟩
    · rw [fL_target, fX6_target, e1, Option.bind_some, Sum.elim_inl, Option.bind_some, Sum.elim_inl, if_neg (by decide), if_pos rfl]
    · rw [fX7_target, hr, Option.bind_some, e2, Option.bind_some, bad 2 (by decide), Option.bind_some]
  · by_cases h5 : a5 < 0
    · refine ⟨2, f, g, ?_, ?_, hR, hG⟩
      · rw [fL_target, fX6_target, e1, Option.bind_some, Sum.elim_inr, if_pos h5, Option.bind_some, Sum.elim_inl, if_neg (by decide), if_pos rfl]
      · rw [fX7_target, fX7_isIn, if_pos h5, Option.bind_some, e2, Option.bind_some, bad 2 (by decide), Option.bind_some]
    · by_cases h6 : a5 ≤ 100
      · obtain ⟨f', b1, c1⟩ := aim_spec (v := a5) (t := f) h2 h20 hN hx hx1 hy hy1
        obtain ⟨g', b2, c2⟩ := mtgt_loop (v := a5) (t := g) h2 h20 hN hx hx1 hy hy1
        refine ⟨0, f', g', ?_, ?_, b1.RA hR b2, b2.NN hG (pos_le (n := 0) h5)⟩
        · rw [fL_target, fX6_target, e1, Option.bind_some, Sum.elim_inr, if_neg h5, if_pos h6, c1, Option.bind_some, Option.bind_some, Sum.elim_inr]
        · rw [fX7_target, fX7_isIn, if_neg h5, if_neg (Int32.not_lt.mpr h6), Option.bind_some, e3 1 (by decide), Option.bind_some, c2, Option.bind_some]
      · refine ⟨2, f, g, ?_, ?_, hR, hG⟩
        · rw [fL_target, fX6_target, e1, Option.bind_some, Sum.elim_inr, if_neg h5, if_neg h6, Option.bind_some, Sum.elim_inl, if_neg (by decide), if_pos rfl]
        · rw [fX7_target, fX7_isIn, if_neg h5, if_pos (Int32.not_le.mp h6), Option.bind_some, e2, Option.bind_some, bad 2 (by decide), Option.bind_some]
theorem pu_keep {S N : Nat} {a1 a2 a3 a4 a5 th : Int32} {f g : Nat → Int32} (h2 : 2 ≤ S) (h20 : S ≤ 20) (hN : 1000 ≤ N) (hR : RA S f g) :
    ∃ k f' g', fL_keep N a1 a2 a3 a4 a5 (nI S) (S * S) f = some (k, f') ∧ fX7_keep N a1 a2 a3 a4 a5 th (nI S) 400 g = some (k, g') ∧ RA S f' g' := by
  have bad : ∀ (k : Int32), ¬ k = 0 → ∀ (a : Int32) (t : Nat → Int32), LX7_keep_17 k a4 a3 400 a5 N a1 N a t = some (a, t) := fun k hk a t => by
    obtain ⟨N', rfl⟩ : ∃ N', N = N' + 1 := ⟨N - 1, by omega⟩
    rw [LX7_keep_17, if_neg hk]
  rcases block_spec (N := N) (a1 := a1) (a2 := a2) (a3 := a3) (a4 := a4) h2 h20 with ⟨e1, e2⟩ | ⟨e1, e2⟩ | ⟨x0, y0, x1, y1, hx, hx1, hy, hy1, rfl, rfl, rfl, rfl, e1, e2, e3⟩
  · refine ⟨1, f, g, ?_, ?_, hR⟩
    · rw [fL_keep, fX6_keep, e1, Option.bind_some, Sum.elim_inl, Option.bind_some, Sum.elim_inl, if_pos rfl]
    · rw [fX7_keep, e2, Option.bind_some, bad 1 (by decide), Option.bind_some]
  · refine ⟨2, f, g, ?_, ?_, hR⟩
    · rw [fL_keep, fX6_keep, e1, Option.bind_some, Sum.elim_inl, Option.bind_some, Sum.elim_inl, if_neg (by decide), if_pos rfl]
    · rw [fX7_keep, e2, Option.bind_some, bad 2 (by decide), Option.bind_some]
  · obtain ⟨f', b1, c1⟩ := guard_spec (v := a5) (t := f) h2 h20 hN hx hx1 hy hy1
    obtain ⟨g', b2, c2⟩ := mkeep_loop (v := a5) (t := g) h2 h20 hN hx hx1 hy hy1
    refine ⟨0, f', g', ?_, ?_, b1.RA hR b2⟩
    · rw [fL_keep, fX6_keep, e1, Option.bind_some, Sum.elim_inr, c1, Option.bind_some, Option.bind_some, Sum.elim_inr]
    · rw [fX7_keep, e3 1 (by decide), Option.bind_some, c2, Option.bind_some]
