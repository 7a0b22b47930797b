/-! more pure rows for the reference -/
theorem tdv_rng {a c M : Int} (h : 0 ≤ a ∧ a < M) (hc : 1 ≤ c) : 0 ≤ a.tdiv c ∧ a.tdiv c < M := by
  rw [Int.tdiv_eq_ediv_of_nonneg h.1]
  have h1 := Int.ediv_nonneg h.1 (show 0 ≤ c by omega)
  have h2 := Int.ediv_le_self c h.1
  omega
theorem adv_m {n e p : Int} (h : 0 ≤ p ∧ p ≤ 31) : n * sn ((p + 8) % 32) + e * sn p = adv n e p := by
  unfold adv
  rw [mv1, mv1, show (p + 0) % 32 = p by omega]
/-- the search's two loops: least miss x and peg f found so far; at speed 0 all points miss alike -/
def sO (n e le w x f : Int) : Prop := (w = 0 ∧ x = -1 ∧ f = 0) ∨ (1 ≤ w ∧ x = (lkv n e le (w - 1).toNat).1 ∧ f = (lkv n e le (w - 1).toNat).2)
def sP (n e le w p x f : Int) : Prop := (w = 0 ∧ p = 0 ∧ x = -1 ∧ f = 0) ∨ (w = 0 ∧ 1 ≤ p ∧ x = n * n + e * e ∧ f = 0) ∨ (1 ≤ w ∧ x = (lkp n e le w p.toNat (lkv n e le (w - 1).toNat)).1 ∧ f = (lkp n e le w p.toNat (lkv n e le (w - 1).toNat)).2)
theorem sO_P {n e le w x f : Int} (h : sO n e le w x f) (hw : 0 ≤ w ∧ w ≤ 201) : sP n e le w 0 x f := by
  rcases h with ⟨h1, h2, h3⟩ | ⟨h1, h2, h3⟩
  · exact Or.inl ⟨h1, rfl, h2, h3⟩
  · exact Or.inr (Or.inr ⟨h1, h2, h3⟩)
theorem sP_x {n e le w p x f : Int} (hn : -1000000000 ≤ n ∧ n ≤ 1000000000) (he : -1000000000 ≤ e ∧ e ≤ 1000000000) (hw : 0 ≤ w ∧ w ≤ 200) (h : sP n e le w p x f) : -1 ≤ x ∧ x ≤ 2008008000000000000 := by
  rcases h with ⟨-, -, h2, -⟩ | ⟨-, -, h2, -⟩ | ⟨h1, h2, -⟩
  · omega
  · have h3 := sq_rng hn; have h4 := sq_rng he; omega
  · have := lkp_rng (le := le) (v := w) hn he hw (lkv n e le (w - 1).toNat) (lkv_rng le hn he (w - 1).toNat (by omega)) p.toNat
    rw [h2]; omega
theorem sP_up {n e le w p x f : Int} (hn : -1000000000 ≤ n ∧ n ≤ 1000000000) (he : -1000000000 ≤ e ∧ e ≤ 1000000000) (h : sP n e le w p x f) (hp : 0 ≤ p ∧ p ≤ 32) (hw : 0 ≤ w ∧ w ≤ 200) (hc : x < 0 ∨ ms n e (p + le) w < x) (h9 : 0 ≤ ms n e (p + le) w) : sP n e le w (p + 1) (ms n e (p + le) w) (1000 * p + w) := by
  rcases h with ⟨h1, h2, h3, h4⟩ | ⟨h1, h2, h3, h4⟩ | ⟨h1, h2, h3⟩
  · refine Or.inr (Or.inl ⟨h1, by omega, ?_, by omega⟩)
    rw [h1, ms_0]
  · exfalso
    rw [h1, ms_0] at hc h9
    omega
  · refine Or.inr (Or.inr ⟨h1, ?_⟩)
    by_cases hx : ms n e (p + le) w < x
    · rw [lkp_s n e le w _ hp.1, if_pos (by rw [← h2]; exact hx)]
      exact ⟨rfl, rfl⟩
    · have := lkp_rng (le := le) (v := w) hn he hw (lkv n e le (w - 1).toNat) (lkv_rng le hn he (w - 1).toNat (by omega)) p.toNat
      rw [← h2] at this
      omega
theorem sP_no {n e le w p x f : Int} (h : sP n e le w p x f) (hp : 0 ≤ p ∧ p ≤ 32) (h0 : 0 ≤ x) (hc : ¬ ms n e (p + le) w < x) : sP n e le w (p + 1) x f := by
  rcases h with ⟨h1, h2, h3, h4⟩ | ⟨h1, h2, h3, h4⟩ | ⟨h1, h2, h3⟩
  · omega
  · exact Or.inr (Or.inl ⟨h1, by omega, h3, h4⟩)
  · refine Or.inr (Or.inr ⟨h1, ?_⟩)
    rw [lkp_s n e le w _ hp.1, if_neg (by rw [← h2]; exact hc)]
    exact ⟨h2, h3⟩
theorem sP_end {n e le w p x f : Int} (h : sP n e le w p x f) (hw : 0 ≤ w ∧ w ≤ 201) (hp : p = 32) : sO n e le (w + 1) x f := by
  subst hp
  rcases h with ⟨h1, h2, h3, h4⟩ | ⟨h1, h2, h3, h4⟩ | ⟨h1, h2, h3⟩
  · omega
  · refine Or.inr ⟨by omega, ?_⟩
    rw [h1]
    exact ⟨h3, h4⟩
  · refine Or.inr ⟨by omega, ?_⟩
    rw [show w + 1 - 1 = w by omega, lkv_s n e le (v := w) (by omega)]
    exact ⟨h2, h3⟩
set_option maxRecDepth 100000 in
theorem sO_end {n e le w x f : Int} (h : sO n e le w x f) (hw : w = 201) : f = lk n e le := by
  have e9 : (w - 1).toNat = 200 := by omega
  unfold sO at h
  rw [e9] at h
  unfold lk
  rcases h with ⟨h1, -⟩ | ⟨-, -, h3⟩
  · exact absurd (h1.symm.trans hw) (by decide)
  · rw [h3]
