/-! ===== PURE ROWS: bounds, the root, the folds ===== -/
theorem mul_rng {a b A B : Int} (ha : 0 ≤ a ∧ a ≤ A) (hb : -B ≤ b ∧ b ≤ B) : -(A * B) ≤ a * b ∧ a * b ≤ A * B := by
  have hB : 0 ≤ B := by omega
  have h1 : a * b ≤ a * B := Int.mul_le_mul_of_nonneg_left hb.2 ha.1
  have h2 : a * (-B) ≤ a * b := Int.mul_le_mul_of_nonneg_left hb.1 ha.1
  have h3 : a * B ≤ A * B := Int.mul_le_mul_of_nonneg_right ha.2 hB
  rw [Int.mul_neg] at h2
  omega
theorem sq_rng {a A : Int} (ha : -A ≤ a ∧ a ≤ A) : 0 ≤ a * a ∧ a * a ≤ A * A := by
  rcases Int.le_total 0 a with h | h
  · have := mul_rng (a := a) (b := a) (A := A) (B := A) ⟨h, ha.2⟩ ha
    exact ⟨Int.mul_nonneg h h, this.2⟩
  · have := mul_rng (a := -a) (b := -a) (A := A) (B := A) ⟨by omega, by omega⟩ ⟨by omega, by omega⟩
    rw [Int.neg_mul_neg] at this
    exact ⟨Int.mul_nonneg_of_nonpos_of_nonpos h h, this.2⟩
theorem mv_rng {ax p v V : Int} (hv : 0 ≤ v ∧ v ≤ V) : -(V * 10000) ≤ mv ax p v ∧ mv ax p v ≤ V * 10000 := mul_rng hv (sn_rng _)
theorem legc_rng {u : ST} (hI : Inv u) (ax k : Int) : -2000000 ≤ legc u ax k ∧ legc u ax k ≤ 2000000 := by
  unfold legc
  have h := mv_rng (ax := ax) (p := zpo u k + zle u k) (iv_sp hI k)
  split <;> omega
theorem cur_rng {u : ST} (hI : Inv u) (ax : Int) : -500000 ≤ mv ax (zse u) (zdr u) ∧ mv ax (zse u) (zdr u) ≤ 500000 := by
  have h := mv_rng (ax := ax) (p := zse u) (iv_dr hI)
  omega
theorem lg_rng {u : ST} (hI : Inv u) (ax : Int) {a b : Int} (h : a ≤ b) : -((b - a) * 2500000) ≤ lg u ax a b ∧ lg u ax a b ≤ (b - a) * 2500000 := by
  have h1 := sz_rng (f := legc u ax) h (legc_rng hI ax)
  have h2 := mul_rng (a := b - a) (A := b - a) ⟨by omega, Int.le_refl _⟩ (cur_rng hI ax)
  unfold lg
  omega
theorem fxc_rng {u : ST} (hI : Inv u) (ax m : Int) : -200000000 ≤ fxc u ax m ∧ fxc u ax m ≤ 200000000 := by
  unfold fxc
  have h1 := iv_fn hI m
  have h2 := iv_fe hI m
  split <;> omega
theorem er_rng {u : ST} (hI : Inv u) (ax : Int) {a b : Int} (h : 0 ≤ a ∧ a ≤ b ∧ b ≤ 48) : -520000000 ≤ er u ax a b ∧ er u ax a b ≤ 520000000 := by
  have h1 := lg_rng hI ax h.2.1
  have h2 := fxc_rng hI ax a
  have h3 := fxc_rng hI ax b
  unfold er
  omega
theorem la_rng (u : ST) {m : Int} (h : 0 ≤ m) : 0 ≤ la u m ∧ la u m ≤ m := lf_rng h
theorem nf_rng (u : ST) (m : Int) : nf u m = -1 ∨ (m < nf u m ∧ nf u m ≤ zpg u) := by
  rcases ff_rng (f := zfx u) (a := m + 1) (b := zpg u + 1) with h | ⟨h1, h2, -⟩
  · exact Or.inl h
  · exact Or.inr ⟨by unfold nf; omega, by unfold nf; omega⟩
theorem rk_rng {u : ST} (hI : Inv u) (ax : Int) {m : Int} (h : 0 ≤ m ∧ m ≤ 48) : -320000000 ≤ rk u ax m ∧ rk u ax m ≤ 320000000 := by
  have h0 := la_rng u h.1
  have h1 := lg_rng hI ax h0.2
  have h2 := fxc_rng hI ax (la u m)
  unfold rk
  omega
/-- the correction lies between what the fixes ask and what the legs do -/
theorem co_rng {u : ST} (hI : Inv u) (ax : Int) {m : Int} (h : 0 ≤ m ∧ m ≤ zpg u) : -440000000 ≤ co u ax m ∧ co u ax m ≤ 440000000 := by
  have hpg := iv_pg hI
  have h0 := la_rng u h.1
  have hr := rk_rng hI ax (m := m) ⟨h.1, by omega⟩
  unfold co
  split
  · omega
  · rename_i hc
    have hn := nf_rng u m
    have hn2 : m < nf u m ∧ nf u m ≤ zpg u := by omega
    generalize hA : la u m = a at *
    generalize hB : nf u m = b at *
    have hla := lg_rng hI ax (a := a) (b := m) h0.2
    have hlb := lg_rng hI ax (a := a) (b := b) (by omega)
    have hfa := fxc_rng hI ax a
    have hfb := fxc_rng hI ax b
    have hrk : rk u ax m = fxc u ax a + lg u ax a m := by unfold rk; rw [hA]
    have her : er u ax a b = fxc u ax b - fxc u ax a - lg u ax a b := rfl
    rw [hrk]
    generalize fxc u ax a = fa at *
    generalize fxc u ax b = fb at *
    generalize lg u ax a m = l1 at *
    generalize lg u ax a b = l2 at *
    generalize er u ax a b = ee at *
    have hd : 0 < b - a := by omega
    have hk : 0 ≤ m - a := by omega
    have hk2 : m - a ≤ b - a := by omega
    -- ee * (m - a) between bounds that are whole multiples of (b - a)
    have hle : ee * (m - a) ≤ (b - a) * (200000000 - fa + (m - a) * 2500000) := by
      have e1 : (fb - fa) * (m - a) ≤ (200000000 - fa) * (b - a) := by
        have q1 : (fb - fa) * (m - a) ≤ (200000000 - fa) * (m - a) := Int.mul_le_mul_of_nonneg_right (by omega) hk
        have q2 : (200000000 - fa) * (m - a) ≤ (200000000 - fa) * (b - a) := Int.mul_le_mul_of_nonneg_left hk2 (by omega)
        omega
      have e2 : -l2 * (m - a) ≤ ((b - a) * 2500000) * (m - a) := Int.mul_le_mul_of_nonneg_right (by omega) hk
      have e3 : ee * (m - a) = (fb - fa) * (m - a) + -l2 * (m - a) := by rw [her, ← Int.add_mul]; congr 1
      have e4 : (b - a) * (200000000 - fa + (m - a) * 2500000) = (200000000 - fa) * (b - a) + ((b - a) * 2500000) * (m - a) := by
        rw [Int.mul_add, Int.mul_comm (b - a) (200000000 - fa), Int.mul_assoc, Int.mul_comm 2500000 (m - a)]
      omega
    have hge : (b - a) * (-200000000 - fa - (m - a) * 2500000) ≤ ee * (m - a) := by
      have e1 : (-200000000 - fa) * (b - a) ≤ (fb - fa) * (m - a) := by
        have q1 : (-200000000 - fa) * (m - a) ≤ (fb - fa) * (m - a) := Int.mul_le_mul_of_nonneg_right (by omega) hk
        have q2 : (200000000 + fa) * (m - a) ≤ (200000000 + fa) * (b - a) := Int.mul_le_mul_of_nonneg_left hk2 (by omega)
        have q3 : (-200000000 - fa) = -(200000000 + fa) := by omega
        rw [q3, Int.neg_mul] at q1 ⊢
        omega
      have e2 : -((b - a) * 2500000) * (m - a) ≤ -l2 * (m - a) := Int.mul_le_mul_of_nonneg_right (by omega) hk
      have e3 : ee * (m - a) = (fb - fa) * (m - a) + -l2 * (m - a) := by rw [her, ← Int.add_mul]; congr 1
      have e4 : (b - a) * (-200000000 - fa - (m - a) * 2500000) = (-200000000 - fa) * (b - a) + -((b - a) * 2500000) * (m - a) := by
        rw [Int.mul_sub, Int.mul_comm (b - a) (-200000000 - fa), Int.neg_mul, Int.mul_assoc (b - a) 2500000 (m - a), Int.mul_comm 2500000 (m - a)]
        omega
      omega
    have d1 : ee * (m - a) / (b - a) ≤ 200000000 - fa + (m - a) * 2500000 := Int.le_trans (Int.ediv_le_ediv hd hle) (by rw [Int.mul_ediv_cancel_left _ (by omega)]; exact Int.le_refl _)
    have d2 : -200000000 - fa - (m - a) * 2500000 ≤ ee * (m - a) / (b - a) := Int.le_trans (by rw [Int.mul_ediv_cancel_left _ (by omega)]; exact Int.le_refl _) (Int.ediv_le_ediv hd hge)
    omega
theorem df_rng {u : ST} (hI : Inv u) (ax : Int) {a b : Int} (h : 0 ≤ a ∧ a ≤ zpg u) (h2 : 0 ≤ b ∧ b ≤ zpg u) : -880000000 ≤ df u ax a b ∧ df u ax a b ≤ 880000000 := by
  have h1 := co_rng hI ax h
  have h2 := co_rng hI ax h2
  unfold df
  omega
theorem dq_rng {u : ST} (hI : Inv u) {a b : Int} (h : 0 ≤ a ∧ a ≤ zpg u) (h2 : 0 ≤ b ∧ b ≤ zpg u) : 0 ≤ df u 8 a b * df u 8 a b + df u 0 a b * df u 0 a b ∧ df u 8 a b * df u 8 a b + df u 0 a b * df u 0 a b ≤ 1548800000000000000 := by
  have h3 := sq_rng (df_rng hI 8 h h2)
  have h4 := sq_rng (df_rng hI 0 h h2)
  omega
theorem isn_ok {s : Int} (h : 0 ≤ s ∧ s < 4611686018427387904) : ∀ n : Nat, n ≤ 31 → 0 ≤ isn s n ∧ isn s n * isn s n ≤ s ∧ s < (isn s n + 2 ^ (31 - n)) * (isn s n + 2 ^ (31 - n)) ∧ isn s n + 2 ^ (31 - n) ≤ 2147483648 := by
  intro n
  induction n with
  | zero => intro _; refine ⟨Int.le_refl 0, by simpa [isn] using h.1, ?_, by show (0 : Int) + 2 ^ 31 ≤ 2147483648; decide⟩; have := h.2; show s < (0 + 2 ^ 31) * (0 + 2 ^ 31); omega
  | succ n ih =>
    intro hn
    obtain ⟨h1, h2, h3, h4⟩ := ih (by omega)
    have e : (2 : Int) ^ (31 - n) = 2 ^ (30 - n) + 2 ^ (30 - n) := by
      rw [show 31 - n = (30 - n) + 1 by omega, Int.pow_succ]; omega
    have e0 : (0 : Int) < 2 ^ (30 - n) := Int.pow_pos (by decide)
    rw [show 31 - (n + 1) = 30 - n by omega]
    unfold isn
    rw [e] at h3 h4
    generalize (2 : Int) ^ (30 - n) = w at *
    generalize isn s n = r at *
    split
    · refine ⟨by omega, by assumption, ?_, by omega⟩
      rw [show r + w + w = r + (w + w) by omega]; exact h3
    · exact ⟨h1, h2, by omega, by omega⟩
theorem isq_ok {s : Int} (h : 0 ≤ s ∧ s < 4611686018427387904) : 0 ≤ isq s ∧ isq s < 2147483648 ∧ isq s * isq s ≤ s ∧ s < (isq s + 1) * (isq s + 1) := by
  obtain ⟨h1, h2, h3, h4⟩ := isn_ok h 31 (Nat.le_refl _)
  unfold isq
  have e : (2 : Int) ^ (31 - 31) = 1 := rfl
  rw [e] at h3 h4
  exact ⟨h1, by omega, h2, h3⟩
theorem sq_le {a b : Int} (h0 : 0 ≤ a) (h : a ≤ b) : a * a ≤ b * b := Int.le_trans (Int.mul_le_mul_of_nonneg_left h h0) (Int.mul_le_mul_of_nonneg_right h (by omega))
theorem isq_one {s r : Int} (h : 0 ≤ s ∧ s < 4611686018427387904) (h0 : 0 ≤ r) (h1 : r * r ≤ s) (h2 : s < (r + 1) * (r + 1)) : isq s = r := by
  obtain ⟨g0, -, g1, g2⟩ := isq_ok h
  rcases Int.lt_trichotomy (isq s) r with q | q | q
  · have := sq_le (a := isq s + 1) (b := r) (by omega) (by omega); omega
  · exact q
  · have := sq_le (a := r + 1) (b := isq s) (by omega) (by omega); omega
theorem np_rng (n e : Int) : 0 ≤ np n e ∧ np n e ≤ 31 := by
  have key : ∀ k : Nat, 0 ≤ npn n e k ∧ npn n e k ≤ k := by
    intro k
    induction k with
    | zero => exact ⟨Int.le_refl 0, Int.le_refl 0⟩
    | succ k ih => unfold npn; split <;> omega
  exact key 31
theorem npn_rng (n e : Int) (k : Nat) : 0 ≤ npn n e k ∧ npn n e k ≤ k := by
  induction k with
  | zero => exact ⟨Int.le_refl 0, Int.le_refl 0⟩
  | succ k ih => unfold npn; split <;> omega
theorem npn_s (n e : Int) {k : Int} (h : 0 ≤ k) : npn n e (k + 1).toNat = if adv n e (npn n e k.toNat) < adv n e (k + 1) then k + 1 else npn n e k.toNat := by
  rw [show (k + 1).toNat = k.toNat + 1 by omega, npn, Int.toNat_of_nonneg h]
theorem mv1 (ax p : Int) : mv ax p 1 = sn ((p + ax) % 32) := Int.one_mul _
theorem sn_mul {n s N : Int} (hn : -N ≤ n ∧ n ≤ N) (hs : -10000 ≤ s ∧ s ≤ 10000) : -(N * 10000) ≤ n * s ∧ n * s ≤ N * 10000 := by
  rcases Int.le_total 0 n with h | h
  · exact mul_rng ⟨h, hn.2⟩ hs
  · have := mul_rng (a := -n) (A := N) ⟨by omega, by omega⟩ hs
    rw [Int.neg_mul] at this
    omega
theorem adv_rng {n e : Int} (hn : -1000000000 ≤ n ∧ n ≤ 1000000000) (he : -1000000000 ≤ e ∧ e ≤ 1000000000) (p : Int) : -20000000000000 ≤ adv n e p ∧ adv n e p ≤ 20000000000000 := by
  have h1 := sn_mul hn (sn_rng ((p + 8) % 32))
  have h2 := sn_mul he (sn_rng ((p + 0) % 32))
  unfold adv
  rw [mv1, mv1]
  omega
theorem ms_rng {n e : Int} (hn : -1000000000 ≤ n ∧ n ≤ 1000000000) (he : -1000000000 ≤ e ∧ e ≤ 1000000000) {p v : Int} (hv : 0 ≤ v ∧ v ≤ 200) : 0 ≤ ms n e p v ∧ ms n e p v ≤ 2008008000000000000 := by
  have h1 := mv_rng (ax := 8) (p := p) hv
  have h2 := mv_rng (ax := 0) (p := p) hv
  have h3 := sq_rng (a := n - mv 8 p v) (A := 1002000000) ⟨by omega, by omega⟩
  have h4 := sq_rng (a := e - mv 0 p v) (A := 1002000000) ⟨by omega, by omega⟩
  unfold ms
  omega
theorem lkp_s (n e le v : Int) (q : Int × Int) {p : Int} (h : 0 ≤ p) : lkp n e le v (p + 1).toNat q = if ms n e (p + le) v < (lkp n e le v p.toNat q).1 then (ms n e (p + le) v, 1000 * p + v) else lkp n e le v p.toNat q := by
  rw [show (p + 1).toNat = p.toNat + 1 by omega, lkp, Int.toNat_of_nonneg h]
theorem lkv_s (n e le : Int) {v : Int} (h : 0 < v) : lkv n e le v.toNat = lkp n e le v 32 (lkv n e le (v - 1).toNat) := by
  rw [show v.toNat = (v - 1).toNat + 1 by omega, lkv, show (((v - 1).toNat : Nat) : Int) + 1 = v by omega]
theorem lkp_rng {n e le v : Int} (hn : -1000000000 ≤ n ∧ n ≤ 1000000000) (he : -1000000000 ≤ e ∧ e ≤ 1000000000) (hv : 0 ≤ v ∧ v ≤ 200) (q : Int × Int) (hq : 0 ≤ q.1 ∧ q.1 ≤ 2008008000000000000) (k : Nat) : 0 ≤ (lkp n e le v k q).1 ∧ (lkp n e le v k q).1 ≤ 2008008000000000000 := by
  induction k with
  | zero => exact hq
  | succ k ih =>
    unfold lkp
    split
    · exact ms_rng hn he hv
    · exact ih
theorem lkv_rng {n e : Int} (le : Int) (hn : -1000000000 ≤ n ∧ n ≤ 1000000000) (he : -1000000000 ≤ e ∧ e ≤ 1000000000) (k : Nat) (hk : k ≤ 200) : 0 ≤ (lkv n e le k).1 ∧ (lkv n e le k).1 ≤ 2008008000000000000 := by
  induction k with
  | zero => have h1 := sq_rng hn; have h2 := sq_rng he; show 0 ≤ n * n + e * e ∧ n * n + e * e ≤ _; omega
  | succ k ih => unfold lkv; exact lkp_rng hn he ⟨by omega, by omega⟩ _ (ih (by omega)) 32
theorem sz01 {f : Int → Int} (hf : ∀ k, f k = 0 ∨ f k = 1) {a b : Int} (h : a ≤ b) : 0 ≤ sz f a b ∧ sz f a b ≤ b - a := by
  have := sz_rng (f := f) (lo := 0) (hi := 1) h (fun k => by have := hf k; omega)
  omega
theorem fl_rng (u : ST) : fl u = -1 ∨ (0 ≤ fl u ∧ fl u < zpg u ∧ ¬ zlo u (fl u) = 0) := ff_rng
/-! the buffer -/
theorem agn_stop {u : ST} {p j : Int} (h : ¬ (j < zbl u ∧ j < 5 ∧ ¬ (0 < j ∧ zbu u (j - 1) = 32) ∧ zbu u j = nm (5 * p + j))) (n : Nat) : agn u p n j = j := by
  cases n with
  | zero => rfl
  | succ n => rw [agn, if_neg h]
theorem agn_go {u : ST} {p j : Int} (h : j < zbl u ∧ j < 5 ∧ ¬ (0 < j ∧ zbu u (j - 1) = 32) ∧ zbu u j = nm (5 * p + j)) (n : Nat) : agn u p (n + 1) j = agn u p n (j + 1) := by
  rw [agn, if_pos h]
theorem agn_rng {u : ST} {p : Int} (n : Nat) : ∀ j : Int, 0 ≤ j → j ≤ 5 → j ≤ zbl u → j ≤ agn u p n j ∧ agn u p n j ≤ 5 ∧ agn u p n j ≤ zbl u := by
  induction n with
  | zero => intro j h0 h1 h2; exact ⟨Int.le_refl j, h1, h2⟩
  | succ n ih =>
    intro j h0 h1 h2
    by_cases h : j < zbl u ∧ j < 5 ∧ ¬ (0 < j ∧ zbu u (j - 1) = 32) ∧ zbu u j = nm (5 * p + j)
    · rw [agn_go h]; have := ih (j + 1) (by omega) (by omega) (by omega); omega
    · rw [agn_stop h]; omega
theorem ag_rng {u : ST} (hI : Inv u) (p : Int) : 0 ≤ ag u p ∧ ag u p ≤ 5 ∧ ag u p ≤ zbl u := agn_rng 5 0 (Int.le_refl 0) (by decide) (iv_bl hI).1
theorem pbn_rng (u : ST) (k : Nat) : 0 ≤ pbn u k ∧ pbn u k ≤ k := by
  induction k with
  | zero => exact ⟨Int.le_refl 0, Int.le_refl 0⟩
  | succ k ih => unfold pbn; split <;> omega
theorem pb_rng (u : ST) : 0 ≤ pb u ∧ pb u ≤ 31 := pbn_rng u 31
theorem pbn_s (u : ST) {k : Int} (h : 0 ≤ k) : pbn u (k + 1).toNat = if ag u (pbn u k.toNat) < ag u (k + 1) then k + 1 else pbn u k.toNat := by
  rw [show (k + 1).toNat = k.toNat + 1 by omega, pbn, Int.toNat_of_nonneg h]
theorem dsn_stop {u : ST} {a t : Int} (h : ¬ (t < zbl u ∧ dok u a t (num (zbu u) a t))) (n : Nat) : dsn u a n t = t := by
  cases n with
  | zero => rfl
  | succ n => rw [dsn, if_neg h]
theorem dsn_go {u : ST} {a t : Int} (h : t < zbl u ∧ dok u a t (num (zbu u) a t)) (n : Nat) : dsn u a (n + 1) t = dsn u a n (t + 1) := by
  rw [dsn, if_pos h]
theorem dsn_rng {u : ST} {a : Int} (n : Nat) : ∀ t : Int, t ≤ zbl u → t ≤ dsn u a n t ∧ dsn u a n t ≤ zbl u := by
  induction n with
  | zero => intro t h; exact ⟨Int.le_refl t, h⟩
  | succ n ih =>
    intro t h
    by_cases hc : t < zbl u ∧ dok u a t (num (zbu u) a t)
    · rw [dsn_go hc]; have := ih (t + 1) (by omega); omega
    · rw [dsn_stop hc]; omega
theorem ds_rng {u : ST} {a : Int} (h : a ≤ zbl u) : a ≤ ds u a ∧ ds u a ≤ zbl u := dsn_rng 12 a h
theorem ep_rng {u : ST} (hI : Inv u) : 0 ≤ ep u ∧ ep u ≤ zbl u := by
  have h := ag_rng hI (pb u)
  have h2 := ds_rng (u := u) (a := ag u (pb u)) h.2.2
  unfold ep
  split <;> omega
