/-! ===== what holds of a board stays so ===== -/
theorem zup_all {P : Int → Prop} {f : Int → Int} {i x : Int} (hf : ∀ k, P (f k)) (hx : P x) : ∀ k, P (zup f i x k) := by
  intro k
  unfold zup
  split
  · exact hx
  · exact hf k
theorem zup_id {f : Int → Int} {i x : Int} (h : f i = x) : zup f i x = f := by
  funext k
  unfold zup
  split
  · rename_i e; rw [e, h]
  · rfl
theorem inv_cl {u : ST} (h : Inv u) : Inv (ubl u 0) := by
  obtain ⟨h1, h2, h3, h4, h5, h6⟩ := h
  exact ⟨⟨Int.le_refl 0, show (0 : Int) ≤ 12 by decide⟩, h2, h3, h4, fun k a b => absurd b (Int.not_lt.mpr a), h6⟩
theorem inv_ap {u : ST} (h : Inv u) (c : Int) : Inv (apU u c) := by
  unfold apU
  split
  · rename_i hc
    obtain ⟨h1, h2, h3, h4, h5, h6, h7⟩ := h
    refine ⟨?_, h2, h3, h4, ?_, ?_, h7⟩
    · show 0 ≤ zbl u + 1 ∧ zbl u + 1 ≤ 12; omega
    · show ∀ k, 0 ≤ k → k < zbl u + 1 → 32 ≤ zup (zbu u) (zbl u) c k ∧ zup (zbu u) (zbl u) c k ≤ 126
      intro k a b
      unfold zup
      split
      · exact hc.1
      · exact h5 k a (by omega)
    · exact zup_all (P := fun y => 0 ≤ y ∧ y ≤ 126) h6 (by omega)
  · exact h
theorem inv_pg {u : ST} (h : Inv u) {p v : Int} (hp : okP p v) (hg : zpg u < 48) : Inv (pgU u p v) := by
  obtain ⟨h1, h2, h3, h4, h5, h6, h7, h8, h9, h10, h11, h12, h13, h14⟩ := h
  refine ⟨h1, ?_, h3, h4, h5, h6, ?_, ?_, ?_, ?_, h11, h12, ?_, h14⟩
  · show 0 ≤ zpg u + 1 ∧ zpg u + 1 ≤ 48; omega
  · exact zup_all (P := fun y => 0 ≤ y ∧ y ≤ 31) h7 hp.1
  · exact zup_all (P := fun y => 0 ≤ y ∧ y ≤ 200) h8 hp.2
  · exact zup_all (P := fun y => -2 ≤ y ∧ y ≤ 2) h9 (by decide)
  · exact zup_all (P := fun y => y = 0 ∨ y = 1) h10 (by decide)
  · intro k hk
    exact h13 k (by have : zpg u + 1 < k := hk; omega)
theorem inv_ad {u : ST} (h : Inv u) (p v : Int) : Inv (adU u p v) := by
  unfold adU
  split
  · rename_i hc; exact inv_pg h hc.1 hc.2
  · exact h
theorem inv_re {u : ST} (h : Inv u) (k p v : Int) : Inv (reU u k p v) := by
  unfold reU
  split
  · rename_i hc
    obtain ⟨h1, h2, h3, h4, h5, h6, h7, h8, h9, h10, h11⟩ := h
    exact ⟨h1, h2, h3, h4, h5, h6, zup_all (P := fun y => 0 ≤ y ∧ y ≤ 31) h7 hc.2.1, zup_all (P := fun y => 0 ≤ y ∧ y ≤ 200) h8 hc.2.2, h9, zup_all (P := fun y => y = 0 ∨ y = 1) h10 (by decide), h11⟩
  · exact h
theorem inv_rl {u : ST} (h : Inv u) : Inv (rlU u) := by
  unfold rlU
  split
  · exact h
  · rename_i hc
    obtain ⟨h1, h2, h3, h4, h5, h6, h7, h8, h9, h10, h11, h12, h13, h14⟩ := h
    refine ⟨h1, ?_, h3, h4, h5, h6, h7, h8, h9, h10, zup_all (P := fun y => y = 0 ∨ y = 1) h11 (by decide), ?_, ?_, h14⟩
    · show 0 ≤ zpg u - 1 ∧ zpg u - 1 ≤ 48; omega
    · show zup (zfx u) (zpg u) 0 0 = 1
      rw [zup_n _ _ (by omega)]; exact h12
    · show ∀ k, zpg u - 1 < k → zup (zfx u) (zpg u) 0 k = 0
      intro k hk
      unfold zup
      split
      · rfl
      · exact h13 k (by omega)
theorem inv_lo {u : ST} (h : Inv u) (k x : Int) (hx : x = 0 ∨ x = 1) : Inv (ulo u (zup (zlo u) k x)) := by
  obtain ⟨h1, h2, h3, h4, h5, h6, h7, h8, h9, h10, h11⟩ := h
  exact ⟨h1, h2, h3, h4, h5, h6, h7, h8, h9, zup_all (P := fun y => y = 0 ∨ y = 1) h10 hx, h11⟩
theorem inv_loU {u : ST} (h : Inv u) (k : Int) : Inv (loU u k) := by
  unfold loU
  split
  · exact inv_lo h k 1 (by decide)
  · exact h
theorem inv_sl {u : ST} (h : Inv u) (k w : Int) : Inv (slU u k w) := by
  unfold slU
  split
  · rename_i hc
    obtain ⟨h1, h2, h3, h4, h5, h6, h7, h8, h9, h10⟩ := h
    exact ⟨h1, h2, h3, h4, h5, h6, h7, h8, zup_all (P := fun y => -2 ≤ y ∧ y ≤ 2) h9 hc.2, h10⟩
  · exact h
theorem inv_sc {u : ST} (h : Inv u) (a b : Int) : Inv (scU u a b) := by
  unfold scU
  split
  · rename_i hc
    obtain ⟨h1, h2, h3, h4, h5⟩ := h
    exact ⟨h1, h2, hc.1, hc.2, h5⟩
  · exact h
theorem inv_sf {u : ST} (h : Inv u) (m n e : Int) (hm : isF u m) (hf : okF n e) : Inv (ufe (ufn (ufx u (zup (zfx u) m 1)) (zup (zfn u) m n)) (zup (zfe u) m e)) := by
  obtain ⟨h1, h2, h3, h4, h5, h6, h7, h8, h9, h10, h11, h12, h13, h14, h15⟩ := h
  refine ⟨h1, h2, h3, h4, h5, h6, h7, h8, h9, h10, zup_all (P := fun y => y = 0 ∨ y = 1) h11 (by decide), ?_, ?_, zup_all (P := fun y => -200000000 ≤ y ∧ y ≤ 200000000) h14 hf.1, zup_all (P := fun y => -200000000 ≤ y ∧ y ≤ 200000000) h15 hf.2⟩
  · show zup (zfx u) m 1 0 = 1
    rw [zup_n _ _ (by omega)]; exact h12
  · show ∀ k, zpg u < k → zup (zfx u) m 1 k = 0
    intro k hk
    rw [zup_n _ _ (by omega)]
    exact h13 k hk
theorem inv_sfU {u : ST} (h : Inv u) (m n e : Int) : Inv (sfU u m n e) := by
  unfold sfU
  split
  · rename_i hc; exact inv_sf h m n e hc.1 hc.2
  · exact h
theorem inv_rf {u : ST} (h : Inv u) (m : Int) (hm : isF u m) : Inv (ufx u (zup (zfx u) m 0)) := by
  obtain ⟨h1, h2, h3, h4, h5, h6, h7, h8, h9, h10, h11, h12, h13, h14⟩ := h
  refine ⟨h1, h2, h3, h4, h5, h6, h7, h8, h9, h10, zup_all (P := fun y => y = 0 ∨ y = 1) h11 (by decide), ?_, ?_, h14⟩
  · show zup (zfx u) m 0 0 = 1
    rw [zup_n _ _ (by omega)]; exact h12
  · show ∀ k, zpg u < k → zup (zfx u) m 0 k = 0
    intro k hk
    unfold zup
    split
    · rfl
    · exact h13 k hk
theorem inv_rfU {u : ST} (h : Inv u) (m : Int) : Inv (rfU u m) := by
  unfold rfU
  split
  · rename_i hc; exact inv_rf h m hc.1
  · exact h
theorem lo_b {u : ST} (h : Inv u) (k : Int) : B32 (sz (zup (zlo u) k 1) 0 (zpg u)) := by
  have hp := iv_pg h
  have := sz01 (f := zup (zlo u) k 1) (iv_lo (inv_lo h k 1 (by decide))) hp.1
  omega
theorem fx_b {f : Int → Int} (hf : ∀ k, f k = 0 ∨ f k = 1) {n : Int} (hn : 0 ≤ n ∧ n ≤ 49) : B32 (sz f 0 n) := by
  have := sz01 hf hn.1
  omega
theorem sf_b {u : ST} (h : Inv u) (m : Int) : B32 (sz (zup (zfx u) m 1) 0 (zpg u + 1)) := by
  have hp := iv_pg h
  exact fx_b (zup_all (P := fun y => y = 0 ∨ y = 1) (iv_fx h) (by decide)) (by omega)
theorem rf_b {u : ST} (h : Inv u) (m : Int) : B32 (sz (zup (zfx u) m 0) 0 (zpg u + 1)) := by
  have hp := iv_pg h
  exact fx_b (zup_all (P := fun y => y = 0 ∨ y = 1) (iv_fx h) (by decide)) (by omega)
theorem dq_b {u : ST} (hI : Inv u) {a b : Int} (h : isM u a) (h2 : isM u b) : 0 ≤ df u 8 a b * df u 8 a b + df u 0 a b * df u 0 a b ∧ df u 8 a b * df u 8 a b + df u 0 a b * df u 0 a b < 4611686018427387904 := by
  have := dq_rng hI h h2
  omega
theorem cor_b {u : ST} (hI : Inv u) (ax : Int) {k : Int} (h0 : 0 ≤ k) (h1 : k ≤ zpg u) (h : la u k < nf u k) : -4611686018427387904 ≤ er u ax (la u k) (nf u k) * (k - la u k) ∧ er u ax (la u k) (nf u k) * (k - la u k) ≤ 4611686018427387904 := by
  have hp := iv_pg hI
  have ha := la_rng u h0
  have hn := nf_rng u k
  have he := er_rng hI ax (a := la u k) (b := nf u k) (by omega)
  have := mul_rng (a := k - la u k) (A := 48) (b := er u ax (la u k) (nf u k)) (B := 520000000) (by omega) he
  rw [Int.mul_comm]
  omega
/-! the peg in the buffer: a text that is all read, and ends with a digit, is a number up to 200 -/
theorem dsn_num {u : ST} {a : Int} (n : Nat) : ∀ t : Int, a ≤ t → 0 ≤ num (zbu u) a t ∧ num (zbu u) a t ≤ 200 → 0 ≤ num (zbu u) a (dsn u a n t) ∧ num (zbu u) a (dsn u a n t) ≤ 200 := by
  induction n with
  | zero => intro t _ h; exact h
  | succ n ih =>
    intro t hat h
    by_cases hc : t < zbl u ∧ dok u a t (num (zbu u) a t)
    · rw [dsn_go hc]
      refine ih (t + 1) (by omega) ?_
      have e := num_s (f := zbu u) hat
      have hz : t = a → num (zbu u) a t = 0 := fun h => num_0 (by omega)
      omega
    · rw [dsn_stop hc]; exact h
theorem ds_num (u : ST) (a : Int) : 0 ≤ num (zbu u) a (ds u a) ∧ num (zbu u) a (ds u a) ≤ 200 := dsn_num 12 a (Int.le_refl a) (by rw [num_0 (Int.le_refl a)]; decide)
/-- what agreement says of the characters that it has passed -/
theorem agn_at {u : ST} {p : Int} (n : Nat) : ∀ j i : Int, 0 ≤ j → j ≤ i → i < agn u p n j → i < zbl u ∧ i < 5 ∧ ¬ (0 < i ∧ zbu u (i - 1) = 32) ∧ zbu u i = nm (5 * p + i) := by
  induction n with
  | zero => intro j i h0 h1 h2; exact absurd h2 (Int.not_lt.mpr h1)
  | succ n ih =>
    intro j i h0 h1 h2
    by_cases hc : j < zbl u ∧ j < 5 ∧ ¬ (0 < j ∧ zbu u (j - 1) = 32) ∧ zbu u j = nm (5 * p + j)
    · rw [agn_go hc] at h2
      by_cases e : i = j
      · subst e; exact hc
      · exact ih (j + 1) i (by omega) (by omega) h2
    · rw [agn_stop hc] at h2; omega
theorem ag_at {u : ST} {p i : Int} (h0 : 0 ≤ i) (h : i < ag u p) : i < zbl u ∧ i < 5 ∧ ¬ (0 < i ∧ zbu u (i - 1) = 32) ∧ zbu u i = nm (5 * p + i) := agn_at 5 0 i (Int.le_refl 0) h0 h
theorem nm_nodigit (i : Int) : nm i = 0 ∨ nm i = 32 ∨ 58 ≤ nm i := by
  have h : ∀ k, k < 160 → nmL.getD k 0 = 0 ∨ nmL.getD k 0 = 32 ∨ 58 ≤ nmL.getD k 0 := by decide +kernel
  unfold nm
  by_cases hk : i.toNat < 160
  · exact h _ hk
  · exact Or.inl (by rw [List.getD_eq_getElem?_getD, List.getElem?_eq_none (Nat.not_lt.mp hk)]; rfl)
theorem ep_dg {u : ST} (h : ep u = zbl u ∧ dg u (zbl u)) : bk u (ag u (pb u)) ∧ ds u (ag u (pb u)) = zbl u ∧ ag u (pb u) < zbl u := by
  obtain ⟨h1, h2⟩ := h
  unfold ep at h1
  split at h1
  · rename_i hb
    refine ⟨hb, h1, ?_⟩
    have hr : ag u (pb u) ≤ zbl u := by
      by_cases hq : ag u (pb u) ≤ 0
      · omega
      · have := ag_at (u := u) (p := pb u) (i := ag u (pb u) - 1) (by omega) (by omega); omega
    by_cases e : ag u (pb u) = zbl u
    · rw [e] at hb; omega
    · omega
  · rename_i hb
    have := ag_at (u := u) (p := pb u) (i := zbl u - 1) (by omega) (by omega)
    have := nm_nodigit (5 * pb u + (zbl u - 1))
    omega
theorem af_num {u : ST} (hI : Inv u) (h : ep u = zbl u ∧ dg u (zbl u)) : 0 ≤ num (zbu u) (ag u (pb u)) (zbl u) ∧ num (zbu u) (ag u (pb u)) (zbl u) ≤ 200 := by
  have := ds_num u (ag u (pb u))
  rw [(ep_dg h).2.1] at this
  exact this
theorem inv_af {u : ST} (h : Inv u) : Inv (afU u) := by
  unfold afU
  split
  · rename_i hc
    exact inv_pg (inv_cl h) ⟨pb_rng u, af_num h hc.1⟩ hc.2
  · exact h
