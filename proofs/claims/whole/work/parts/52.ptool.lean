/-! tool(..): the half widths of a disc, and the two faces of a tool. -/
theorem sq_le {a b : Nat} (h : a ≤ b) : a * a ≤ b * b := Nat.mul_le_mul h h
theorem sq_of {a b : Nat} (h : a * a ≤ b * b) : a ≤ b := Nat.mul_self_le_mul_self_iff.mp h
/-- v is the half width at the distance d of a disc of radius r -/
def HW (r d v : Nat) : Prop := v ≤ r ∧ ∀ u, u ≤ v ↔ u * u + d * d ≤ r * r
def ToolR (r : Nat) (hw : Nat → Int32) : Prop := ∀ d, d ≤ r → ∃ v, hw d = nI v ∧ HW r d v
def TL (xr xf : Nat → Int32) (hw : Nat → Nat → Int32) (mr mf : Nat → Int32) : Prop := ∀ t, t < 4 → ∃ r, r ≤ 6 ∧ xr t = nI r ∧ mr t = nI r ∧ xf t = mf t ∧ ToolR r (hw t)
theorem hw_spec {N r d : Nat} (hN : 1000 ≤ N) (hr : r ≤ 6) (hd : d ≤ 6) : ∃ v, fX5_halfWidthAt N (nI d) (nI r) = some (nI v) ∧ (d ≤ r → HW r d v) := by
  have hr2 := sq_le hr
  have hd2 := sq_le hd
  have step : ∀ (n a : Nat) (w : Nat), a < r + 1 → (1 ≤ a ∧ w < a ∧ (w = 0 ∨ w * w + d * d ≤ r * r) ∧ ∀ u, u < a → u * u + d * d ≤ r * r → u ≤ w) → ∃ w', (1 ≤ a + 1 ∧ w' < a + 1 ∧ (w' = 0 ∨ w' * w' + d * d ≤ r * r) ∧ ∀ u, u < a + 1 → u * u + d * d ≤ r * r → u ≤ w') ∧ LX5_halfWidthAt_4 (nI r) (nI d) (n + 1) (nI w) (nI a) = LX5_halfWidthAt_4 (nI r) (nI d) n (nI w') (nI (a + 1)) := by
    intro n a w ha ⟨h1, h2, h3, h4⟩
    have ha2 := sq_le (show a ≤ 6 by omega)
    by_cases hc : r * r < a * a + d * d
    · refine ⟨w, ⟨by omega, by omega, h3, fun u hu hh => ?_⟩, ?_⟩
      · by_cases hua : u = a
        · subst hua; omega
        · exact h4 u (by omega) hh
      · rw [LX5_halfWidthAt_4, if_neg (nI_nlt (by omega) (by omega)), pk_mul, pk_mul, pk_mul, nI_add, if_pos (nI_lt hc (by omega)), nI_1]
    · refine ⟨a, ⟨by omega, by omega, Or.inr (by omega), fun u hu hh => by omega⟩, ?_⟩
      rw [LX5_halfWidthAt_4, if_neg (nI_nlt (by omega) (by omega)), pk_mul, pk_mul, pk_mul, nI_add, if_neg (nI_nlt (by omega) (by omega)), nI_1]
  obtain ⟨w, ⟨h1, h2, h3, h4⟩, h5⟩ := loopI (fun n a w => LX5_halfWidthAt_4 (nI r) (nI d) n (nI w) (nI a)) (r + 1) _ (fun w => (nI w, nI (r + 1))) step (fun n w _ => by show LX5_halfWidthAt_4 (nI r) (nI d) (n + 1) (nI w) (nI (r + 1)) = _; rw [LX5_halfWidthAt_4, if_pos (nI_lt (by omega) (by omega))]) 1 N 0 (by omega) (by omega) ⟨by omega, by omega, Or.inl rfl, fun u hu hh => by omega⟩
  refine ⟨w, ?_, fun hdr => ⟨by omega, fun u => ⟨fun hu => ?_, fun hu => h4 u ?_ hu⟩⟩⟩
  · rw [fX5_halfWidthAt, show (0 : Int32) = nI 0 from rfl, show (1 : Int32) = nI 1 from rfl, h5]; rfl
  · have hu2 := sq_le hu
    have hd3 := sq_le hdr
    rcases h3 with h3 | h3
    · subst h3; omega
    · omega
  · have : u ≤ r := sq_of (by omega)
    omega
theorem become_spec {N r : Nat} {a2 o1 o2 : Int32} {h : Nat → Int32} (hN : 1000 ≤ N) (hr : r ≤ 6) : ∃ h', fX5_become N (nI r) a2 o1 o2 7 h = some (nI r, a2, h') ∧ ToolR r h' := by
  have step : ∀ (n a : Nat) (h : Nat → Int32), a < 7 → (∀ d, d < a → d ≤ r → ∃ v, h d = nI v ∧ HW r d v) → ∃ h', (∀ d, d < a + 1 → d ≤ r → ∃ v, h' d = nI v ∧ HW r d v) ∧ LX5_become_12 N (nI r) 7 (n + 1) (nI a) h = LX5_become_12 N (nI r) 7 n (nI (a + 1)) h' := by
    intro n a h ha hP
    obtain ⟨v, h1, h2⟩ := hw_spec (N := N) (r := r) (d := a) hN hr (by omega)
    refine ⟨upd h a (nI v), fun d hd hdr => ?_, ?_⟩
    · by_cases e : d = a
      · subst e
        exact ⟨v, pk_us, h2 hdr⟩
      · rw [pk_un e]
        exact hP d (by omega) hdr
    · rw [LX5_become_12, qn6, if_neg (nI_nlt (by omega) (by omega)), h1, Option.bind_some, if_neg (nI_in (by omega) (by omega)), nI_clamp (by omega), nI_1]
  obtain ⟨h', h1, h2⟩ := loopI (fun n a h => LX5_become_12 N (nI r) 7 n (nI a) h) 7 _ (fun h => (nI 7, h)) step (fun n w _ => by show LX5_become_12 N (nI r) 7 (n + 1) (nI 7) w = _; rw [LX5_become_12, qn6, if_pos (nI_lt (by omega) (by omega))]) 0 N h (by omega) (by omega) (fun d hd => absurd hd (by omega))
  refine ⟨h', ?_, fun d hd => h1 d (by omega) hd⟩
  rw [fX5_become, show (0 : Int32) = nI 0 from rfl, h2]
  rfl
theorem pu_tool {N : Nat} {a1 a2 a3 th : Int32} {xr xf mr mf : Nat → Int32} {hw : Nat → Nat → Int32} (hN : 1000 ≤ N) (hT : TL xr xf hw mr mf) :
    ∃ k xr' xf' hw' mr' mf', fL_tool N a1 a2 a3 xr xf 7 hw = some (k, xr', xf', hw') ∧ fX7_tool N a1 a2 a3 th 4 mr 4 mf = some (k, mr', mf') ∧ TL xr' xf' hw' mr' mf' := by
  have t1 : ∀ x : Int32, (∃ j, j < 4 ∧ x = nI j ∧ fX6_demandTool N x = some (.inr ()) ∧ fX7_isIn N x 0 3 = some 1) ∨ (fX6_demandTool N x = some (.inl 0) ∧ fX7_isIn N x 0 3 = some 0) := by
    intro x
    rcases pk_ix x (n := 4) (by omega) with h | h | ⟨j, hj, rfl⟩
    · exact Or.inr ⟨by rw [fX6_demandTool, if_pos h], by rw [fX7_isIn, if_pos h]⟩
    · have h1 := h
      rw [Int32.le_iff_toInt_le, nI_toInt (by omega)] at h1
      have e1 : ¬ x < 0 := by rw [Int32.lt_iff_toInt_lt, Int32.toInt_zero]; omega
      have e2 : ¬ x < 4 := by rw [qn4, Int32.lt_iff_toInt_lt, nI_toInt (by omega)]; omega
      have e3 : (3 : Int32) < x := by rw [qn3, Int32.lt_iff_toInt_lt, nI_toInt (by omega)]; omega
      exact Or.inr ⟨by rw [fX6_demandTool, if_neg e1, if_neg e2], by rw [fX7_isIn, if_neg e1, if_pos e3]⟩
    · refine Or.inl ⟨j, hj, rfl, ?_, ?_⟩
      · rw [fX6_demandTool, if_neg (nI_pos (by omega)), qn4, if_pos (nI_lt hj (by omega))]
      · rw [fX7_isIn, if_neg (nI_pos (by omega)), qn3, if_neg (nI_nlt (by omega) (by omega))]
  rcases t1 a1 with ⟨j, hj, rfl, e1, e2⟩ | ⟨e1, e2⟩
  · by_cases h1 : a2 < 0
    · refine ⟨2, xr, xf, hw, mr, mf, ?_, ?_, hT⟩
      · rw [fL_tool, fX6_tool, e1, Option.bind_some, Sum.elim_inr, if_pos h1, Option.bind_some, Sum.elim_inl, if_neg (by decide), if_pos rfl]
      · rw [fX7_tool, e2, Option.bind_some, if_neg (by decide), fX7_isIn, if_pos h1, Option.bind_some, if_pos rfl, JX7_tool_39, if_neg (by decide)]
    · by_cases h2 : a2 ≤ 6
      · by_cases h3 : a3 < 1
        · refine ⟨2, xr, xf, hw, mr, mf, ?_, ?_, hT⟩
          · rw [fL_tool, fX6_tool, e1, Option.bind_some, Sum.elim_inr, if_neg h1, if_pos h2, if_pos h3, Option.bind_some, Sum.elim_inl, if_neg (by decide), if_pos rfl]
          · rw [fX7_tool, e2, Option.bind_some, if_neg (by decide), fX7_isIn, if_neg h1, if_neg (Int32.not_lt.mpr h2), Option.bind_some, if_neg (by decide), fX7_isIn, if_pos h3, Option.bind_some, if_pos rfl, JX7_tool_39, if_neg (by decide)]
        · by_cases h4 : a3 ≤ 10
          · obtain ⟨r, hr, rfl⟩ : ∃ r, r ≤ 6 ∧ a2 = nI r := nI_of2 (n := 6) rfl h1 h2
            obtain ⟨h', c1, c2⟩ := become_spec (N := N) (r := r) (a2 := a3) (o1 := xr j) (o2 := xf j) (h := hw j) hN hr
            refine ⟨0, va_up xr j (nI r), va_up xf j a3, va_up hw j h', upd mr j (nI r), upd mf j a3, ?_, ?_, ?_⟩
            · rw [fL_tool, fX6_tool, e1, Option.bind_some, Sum.elim_inr, if_neg h1, if_pos h2, if_neg h3, if_pos h4, if_neg (nI_in hj (by omega)), nI_clamp (by omega), c1]; rfl
            · rw [fX7_tool, e2, Option.bind_some, if_neg (by decide), fX7_isIn, if_neg h1, if_neg (Int32.not_lt.mpr h2), Option.bind_some, if_neg (by decide), fX7_isIn, if_neg h3, if_neg (Int32.not_lt.mpr h4), Option.bind_some, if_neg (by decide), JX7_tool_39, if_pos rfl, if_neg (nI_in hj (by omega)), if_neg (nI_in hj (by omega)), nI_clamp (by omega)]
            · intro t ht
              by_cases e : t = j
              · subst e
                exact ⟨r, hr, va_up_self .., pk_us, by rw [va_up_self, pk_us], by rw [va_up_self]; exact c2⟩
              · rw [va_up_ne _ _ e, va_up_ne _ _ e, va_up_ne _ _ e, pk_un e, pk_un e]
                exact hT t ht
          · refine ⟨2, xr, xf, hw, mr, mf, ?_, ?_, hT⟩
            · rw [fL_tool, fX6_tool, e1, Option.bind_some, Sum.elim_inr, if_neg h1, if_pos h2, if_neg h3, if_neg h4, Option.bind_some, Sum.elim_inl, if_neg (by decide), if_pos rfl]
            · rw [fX7_tool, e2, Option.bind_some, if_neg (by decide), fX7_isIn, if_neg h1, if_neg (Int32.not_lt.mpr h2), Option.bind_some, if_neg (by decide), fX7_isIn, if_neg h3, if_pos (Int32.not_le.mp h4), Option.bind_some, if_pos rfl, JX7_tool_39, if_neg (by decide)]
      · refine ⟨2, xr, xf, hw, mr, mf, ?_, ?_, hT⟩
        · rw [fL_tool, fX6_tool, e1, Option.bind_some, Sum.elim_inr, if_neg h1, if_neg h2, Option.bind_some, Sum.elim_inl, if_neg (by decide), if_pos rfl]
        · rw [fX7_tool, e2, Option.bind_some, if_neg (by decide), fX7_isIn, if_neg h1, if_pos (Int32.not_le.mp h2), Option.bind_some, if_pos rfl, JX7_tool_39, if_neg (by decide)]
  · refine ⟨1, xr, xf, hw, mr, mf, ?_, ?_, hT⟩
    · rw [fL_tool, fX6_tool, e1, Option.bind_some, Sum.elim_inl, Option.bind_some, Sum.elim_inl, if_pos rfl]
    · rw [fX7_tool, e2, Option.bind_some, if_pos rfl, JX7_tool_39, if_neg (by decide)]
