/-! ===== PURE ROWS for the reference: its names by numbers, its sums, its searches, against the same values ===== -/
def fo4 (a b c d : Int) : Int := ((a * 128 + b) * 128 + c) * 128 + d
def nz (x : Int) : Int := if x = 32 then 0 else x
def nmc (p : Int) : Int := fo4 (nz (nm (5 * p + 0))) (nz (nm (5 * p + 1))) (nz (nm (5 * p + 2))) (nz (nm (5 * p + 3)))
def nof (u : ST) (k : Int) : Int := fo4 (if 0 < k then zbu u 0 else 0) (if 1 < k then zbu u 1 else 0) (if 2 < k then zbu u 2 else 0) (if 3 < k then zbu u 3 else 0)
def unt (k : Int) : Int := 128 ^ Int.toNat (4 - k)
theorem unt_v (k : Int) (h : 1 ≤ k ∧ k ≤ 4) : (k = 1 ∧ unt k = 2097152) ∨ (k = 2 ∧ unt k = 16384) ∨ (k = 3 ∧ unt k = 128) ∨ (k = 4 ∧ unt k = 1) := by
  rcases (show k = 1 ∨ k = 2 ∨ k = 3 ∨ k = 4 by omega) with rfl | rfl | rfl | rfl
  · exact Or.inl ⟨rfl, by decide⟩
  · exact Or.inr (Or.inl ⟨rfl, by decide⟩)
  · exact Or.inr (Or.inr (Or.inl ⟨rfl, by decide⟩))
  · exact Or.inr (Or.inr (Or.inr ⟨rfl, by decide⟩))
theorem unt_s {k : Int} (t : Int) (h : k ≤ t) : (128 : Int) ^ Int.toNat (t + 1 - k) = 128 ^ Int.toNat (t - k) * 128 := by
  rw [show (t + 1 - k).toNat = (t - k).toNat + 1 by omega, Int.pow_succ]
theorem nz_rng (i : Int) : 0 ≤ nz (nm i) ∧ nz (nm i) ≤ 126 := by
  have := nm_rng i
  unfold nz
  split <;> omega
theorem nmc_rng (p : Int) : 0 ≤ nmc p ∧ nmc p < 268435456 := by
  have h1 := nz_rng (5 * p + 0); have h2 := nz_rng (5 * p + 1); have h3 := nz_rng (5 * p + 2); have h4 := nz_rng (5 * p + 3)
  unfold nmc fo4
  omega
theorem nof_d {u : ST} (hI : Inv u) (k i : Int) : 0 ≤ (if i < k then zbu u i else 0) ∧ (if i < k then zbu u i else 0) ≤ 126 := by
  have := iv_bu hI i
  split <;> omega
theorem nof_rng {u : ST} (hI : Inv u) (k : Int) : 0 ≤ nof u k ∧ nof u k < 268435456 := by
  have h1 := nof_d hI k 0; have h2 := nof_d hI k 1; have h3 := nof_d hI k 2; have h4 := nof_d hI k 3
  unfold nof fo4
  omega
/-- the point whose name it is -/
def pyn (u : ST) (k : Int) : Nat → Int
  | 0 => -1
  | n + 1 => if nmc (n : Int) = nof u k then (n : Int) else pyn u k n
def py (u : ST) (k : Int) : Int := if 0 < k ∧ k < 5 then pyn u k 32 else -1
theorem pyn_s (u : ST) (k : Int) {t : Int} (h : 0 ≤ t) : pyn u k (t + 1).toNat = if nmc t = nof u k then t else pyn u k t.toNat := by
  rw [show (t + 1).toNat = t.toNat + 1 by omega, pyn, Int.toNat_of_nonneg h]
/-- is it a beginning -/
def bgn (u : ST) (k : Int) : Nat → Int
  | 0 => 0
  | n + 1 => if ¬ bgn u k n = 0 ∨ (nmc (n : Int)).tdiv (unt k) = (nof u k).tdiv (unt k) then 1 else 0
theorem bgn_s (u : ST) (k : Int) {t : Int} (h : 0 ≤ t) : bgn u k (t + 1).toNat = if ¬ bgn u k t.toNat = 0 ∨ (nmc t).tdiv (unt k) = (nof u k).tdiv (unt k) then 1 else 0 := by
  rw [show (t + 1).toNat = t.toNat + 1 by omega, bgn, Int.toNat_of_nonneg h]
theorem bgn_ex {u : ST} {k : Int} (n : Nat) : ¬ bgn u k n = 0 ↔ ∃ p : Int, 0 ≤ p ∧ p < n ∧ (nmc p).tdiv (unt k) = (nof u k).tdiv (unt k) := by
  induction n with
  | zero => exact ⟨fun h => absurd rfl h, fun ⟨p, h0, h1, _⟩ => by omega⟩
  | succ n ih =>
    unfold bgn
    split
    · rename_i h
      refine ⟨fun _ => ?_, fun _ => by decide⟩
      rcases h with h | h
      · obtain ⟨p, h0, h1, h2⟩ := ih.mp h
        exact ⟨p, h0, by omega, h2⟩
      · exact ⟨n, by omega, by omega, h⟩
    · rename_i h
      refine ⟨fun q => absurd rfl q, fun ⟨p, h0, h1, h2⟩ => ?_⟩
      exfalso
      apply h
      by_cases e : p = n
      · subst e; exact Or.inr h2
      · exact Or.inl (ih.mpr ⟨p, h0, by omega, h2⟩)
theorem tdiv_eq {a b c : Int} (ha : 0 ≤ a) (hb : 0 ≤ b) : a.tdiv c = b.tdiv c ↔ a / c = b / c := by
  rw [Int.tdiv_eq_ediv_of_nonneg ha, Int.tdiv_eq_ediv_of_nonneg hb]
theorem nz_eq {x y : Int} (h : 32 < y) : nz x = y ↔ x = y := by
  unfold nz
  split <;> omega
/-- equal beginnings, sign by sign -/
theorem bg_iff {u : ST} (hI : Inv u) {p j : Int} (hj : 1 ≤ j ∧ j ≤ 4) (hc : ∀ i, 0 ≤ i → i < j → 32 < zbu u i) : (nmc p).tdiv (unt j) = (nof u j).tdiv (unt j) ↔ ∀ i, 0 ≤ i → i < j → zbu u i = nm (5 * p + i) := by
  rw [tdiv_eq (nmc_rng p).1 (nof_rng hI j).1]
  have h1 := nz_rng (5 * p + 0); have h2 := nz_rng (5 * p + 1); have h3 := nz_rng (5 * p + 2); have h4 := nz_rng (5 * p + 3)
  have b0 := iv_bu hI 0; have b1 := iv_bu hI 1; have b2 := iv_bu hI 2; have b3 := iv_bu hI 3
  have e0 : 32 < zbu u 0 := hc 0 (Int.le_refl 0) (by omega)
  have n0 := nz_eq (x := nm (5 * p + 0)) e0
  unfold nmc nof fo4
  rcases unt_v j hj with ⟨rfl, e⟩ | ⟨rfl, e⟩ | ⟨rfl, e⟩ | ⟨rfl, e⟩
  · rw [e, if_pos (by decide), if_neg (by decide), if_neg (by decide), if_neg (by decide)]
    constructor
    · intro h i a b
      obtain rfl : i = 0 := by omega
      omega
    · intro h
      have := h 0 (by decide) (by decide)
      omega
  · have n1 := nz_eq (x := nm (5 * p + 1)) (hc 1 (by decide) (by decide))
    rw [e, if_pos (by decide), if_pos (by decide), if_neg (by decide), if_neg (by decide)]
    constructor
    · intro h i a b
      rcases (show i = 0 ∨ i = 1 by omega) with rfl | rfl <;> omega
    · intro h
      have := h 0 (by decide) (by decide); have := h 1 (by decide) (by decide)
      omega
  · have n1 := nz_eq (x := nm (5 * p + 1)) (hc 1 (by decide) (by decide))
    have n2 := nz_eq (x := nm (5 * p + 2)) (hc 2 (by decide) (by decide))
    rw [e, if_pos (by decide), if_pos (by decide), if_pos (by decide), if_neg (by decide)]
    constructor
    · intro h i a b
      rcases (show i = 0 ∨ i = 1 ∨ i = 2 by omega) with rfl | rfl | rfl <;> omega
    · intro h
      have := h 0 (by decide) (by decide); have := h 1 (by decide) (by decide); have := h 2 (by decide) (by decide)
      omega
  · have n1 := nz_eq (x := nm (5 * p + 1)) (hc 1 (by decide) (by decide))
    have n2 := nz_eq (x := nm (5 * p + 2)) (hc 2 (by decide) (by decide))
    have n3 := nz_eq (x := nm (5 * p + 3)) (hc 3 (by decide) (by decide))
    rw [e, if_pos (by decide), if_pos (by decide), if_pos (by decide), if_pos (by decide)]
    constructor
    · intro h i a b
      rcases (show i = 0 ∨ i = 1 ∨ i = 2 ∨ i = 3 by omega) with rfl | rfl | rfl | rfl <;> omega
    · intro h
      have := h 0 (by decide) (by decide); have := h 1 (by decide) (by decide); have := h 2 (by decide) (by decide); have := h 3 (by decide) (by decide)
      omega
/-- equal names, sign by sign: behind the signs stands a blank -/
theorem nm_tab : ∀ p : Fin 32, (∀ i j : Fin 4, i.val ≤ j.val → nm (5 * (p.val : Int) + (i.val : Int)) = 32 → nm (5 * (p.val : Int) + (j.val : Int)) = 32) ∧ nm (5 * (p.val : Int) + 4) = 32 ∧ 58 ≤ nm (5 * (p.val : Int) + 0) := by decide +kernel
theorem nm_dis : ∀ p q : Fin 32, nmc (p.val : Int) = nmc (q.val : Int) → p = q := by decide +kernel
theorem nw_iff {u : ST} (hI : Inv u) {p k : Int} (hp : 0 ≤ p ∧ p ≤ 31) (hk : 1 ≤ k ∧ k ≤ 4) (hc : ∀ i, 0 ≤ i → i < k → 32 < zbu u i) : nmc p = nof u k ↔ (∀ i, 0 ≤ i → i < k → zbu u i = nm (5 * p + i)) ∧ nm (5 * p + k) = 32 := by
  obtain ⟨t1, t2, t3⟩ := nm_tab ⟨p.toNat, by omega⟩
  have ep : ((⟨p.toNat, by omega⟩ : Fin 32).val : Int) = p := Int.toNat_of_nonneg hp.1
  rw [ep] at t1 t2 t3
  have h1 := nz_rng (5 * p + 0); have h2 := nz_rng (5 * p + 1); have h3 := nz_rng (5 * p + 2); have h4 := nz_rng (5 * p + 3)
  have q0 := nm_rng (5 * p + 0); have q1 := nm_rng (5 * p + 1); have q2 := nm_rng (5 * p + 2); have q3 := nm_rng (5 * p + 3)
  have b0 := iv_bu hI 0; have b1 := iv_bu hI 1; have b2 := iv_bu hI 2; have b3 := iv_bu hI 3
  have t12 : nm (5 * p + 1) = 32 → nm (5 * p + 2) = 32 := t1 1 2 (by decide)
  have t23 : nm (5 * p + 2) = 32 → nm (5 * p + 3) = 32 := t1 2 3 (by decide)
  have z1 := nm_nodigit (5 * p + 1); have z2 := nm_nodigit (5 * p + 2); have z3 := nm_nodigit (5 * p + 3)
  have nn : ∀ x : Int, (nz x = 0 ↔ x = 32 ∨ x = 0) := fun x => by unfold nz; split <;> omega
  have m1 := nn (nm (5 * p + 1)); have m2 := nn (nm (5 * p + 2)); have m3 := nn (nm (5 * p + 3))
  have w0 : ∀ i : Fin 160, ¬ nm (i.val : Int) = 0 := by decide +kernel
  have w1 : ¬ nm (5 * p + 1) = 0 := by have := w0 ⟨(5 * p + 1).toNat, by omega⟩; rwa [show (((⟨(5 * p + 1).toNat, by omega⟩ : Fin 160).val : Nat) : Int) = 5 * p + 1 from Int.toNat_of_nonneg (by omega)] at this
  have w2 : ¬ nm (5 * p + 2) = 0 := by have := w0 ⟨(5 * p + 2).toNat, by omega⟩; rwa [show (((⟨(5 * p + 2).toNat, by omega⟩ : Fin 160).val : Nat) : Int) = 5 * p + 2 from Int.toNat_of_nonneg (by omega)] at this
  have w3 : ¬ nm (5 * p + 3) = 0 := by have := w0 ⟨(5 * p + 3).toNat, by omega⟩; rwa [show (((⟨(5 * p + 3).toNat, by omega⟩ : Fin 160).val : Nat) : Int) = 5 * p + 3 from Int.toNat_of_nonneg (by omega)] at this
  have e0 : 32 < zbu u 0 := hc 0 (Int.le_refl 0) (by omega)
  have n0 := nz_eq (x := nm (5 * p + 0)) e0
  unfold nmc nof fo4
  rcases (show k = 1 ∨ k = 2 ∨ k = 3 ∨ k = 4 by omega) with rfl | rfl | rfl | rfl
  · rw [if_pos (by decide), if_neg (by decide), if_neg (by decide), if_neg (by decide)]
    constructor
    · intro h
      refine ⟨fun i a b => ?_, by omega⟩
      obtain rfl : i = 0 := by omega
      omega
    · intro ⟨h, h9⟩
      have := h 0 (by decide) (by decide)
      have := t12 (by omega)
      have := t23 (by omega)
      omega
  · have n1 := nz_eq (x := nm (5 * p + 1)) (hc 1 (by decide) (by decide))
    rw [if_pos (by decide), if_pos (by decide), if_neg (by decide), if_neg (by decide)]
    constructor
    · intro h
      refine ⟨fun i a b => ?_, by omega⟩
      rcases (show i = 0 ∨ i = 1 by omega) with rfl | rfl <;> omega
    · intro ⟨h, h9⟩
      have := h 0 (by decide) (by decide); have := h 1 (by decide) (by decide)
      have := t23 (by omega)
      omega
  · have n1 := nz_eq (x := nm (5 * p + 1)) (hc 1 (by decide) (by decide))
    have n2 := nz_eq (x := nm (5 * p + 2)) (hc 2 (by decide) (by decide))
    rw [if_pos (by decide), if_pos (by decide), if_pos (by decide), if_neg (by decide)]
    constructor
    · intro h
      refine ⟨fun i a b => ?_, by omega⟩
      rcases (show i = 0 ∨ i = 1 ∨ i = 2 by omega) with rfl | rfl | rfl <;> omega
    · intro ⟨h, h9⟩
      have := h 0 (by decide) (by decide); have := h 1 (by decide) (by decide); have := h 2 (by decide) (by decide)
      omega
  · have n1 := nz_eq (x := nm (5 * p + 1)) (hc 1 (by decide) (by decide))
    have n2 := nz_eq (x := nm (5 * p + 2)) (hc 2 (by decide) (by decide))
    have n3 := nz_eq (x := nm (5 * p + 3)) (hc 3 (by decide) (by decide))
    rw [if_pos (by decide), if_pos (by decide), if_pos (by decide), if_pos (by decide)]
    constructor
    · intro h
      refine ⟨fun i a b => ?_, t2⟩
      rcases (show i = 0 ∨ i = 1 ∨ i = 2 ∨ i = 3 by omega) with rfl | rfl | rfl | rfl <;> omega
    · intro ⟨h, h9⟩
      have := h 0 (by decide) (by decide); have := h 1 (by decide) (by decide); have := h 2 (by decide) (by decide); have := h 3 (by decide) (by decide)
      omega
/-! agreement: how far it goes -/
theorem ag_ge {u : ST} {p j : Int} (h0 : 0 ≤ j) (h5 : j ≤ 5) (h : ∀ i, 0 ≤ i → i < j → i < zbl u ∧ ¬ (0 < i ∧ zbu u (i - 1) = 32) ∧ zbu u i = nm (5 * p + i)) : j ≤ ag u p := by
  have key : ∀ (n : Nat) (t : Int), 0 ≤ t → t ≤ j → j ≤ t + n → j ≤ agn u p n t := by
    intro n
    induction n with
    | zero => intro t a b c; show j ≤ t; omega
    | succ n ih =>
      intro t a b c
      by_cases e : t = j
      · by_cases hc : t < zbl u ∧ t < 5 ∧ ¬ (0 < t ∧ zbu u (t - 1) = 32) ∧ zbu u t = nm (5 * p + t)
        · rw [agn_go hc]
          have : t + 1 ≤ agn u p n (t + 1) := by
            clear ih
            have mono : ∀ (m : Nat) (s : Int), s ≤ agn u p m s := by
              intro m
              induction m with
              | zero => intro s; exact Int.le_refl s
              | succ m ih2 =>
                intro s
                by_cases hd : s < zbl u ∧ s < 5 ∧ ¬ (0 < s ∧ zbu u (s - 1) = 32) ∧ zbu u s = nm (5 * p + s)
                · rw [agn_go hd]; have := ih2 (s + 1); omega
                · rw [agn_stop hd]; exact Int.le_refl s
            exact mono n (t + 1)
          omega
        · rw [agn_stop hc]; omega
      · have hq := h t a (by omega)
        rw [agn_go ⟨hq.1, by omega, hq.2⟩]
        exact ih (t + 1) (by omega) (by omega) (by omega)
  exact key 5 0 (Int.le_refl 0) h0 (by omega)
theorem pbn_max (u : ST) (n : Nat) : ∀ p : Int, 0 ≤ p → p ≤ n → ag u p ≤ ag u (pbn u n) := by
  induction n with
  | zero => intro p h0 h1; rw [show p = 0 by omega]; exact Int.le_refl _
  | succ n ih =>
    intro p h0 h1
    unfold pbn
    split
    · rename_i hc
      by_cases e : p = (n : Int) + 1
      · rw [e]; exact Int.le_refl _
      · have := ih p h0 (by omega); omega
    · rename_i hc
      by_cases e : p = (n : Int) + 1
      · rw [e]; omega
      · exact ih p h0 (by omega)
theorem pb_max (u : ST) {p : Int} (h : 0 ≤ p ∧ p ≤ 31) : ag u p ≤ ag u (pb u) := pbn_max u 31 p h.1 h.2
/-! the first loop of parse: k signs that aren't blank, all of them a name's beginning -/
def pk (u : ST) (k : Int) : Prop := (0 ≤ k ∧ k ≤ 4) ∧ k ≤ zbl u ∧ (∀ i, 0 ≤ i → i < k → 32 < zbu u i) ∧ k ≤ ag u (pb u)
theorem pk_0 {u : ST} (hI : Inv u) : pk u 0 := ⟨by decide, (iv_bl hI).1, fun i a b => by omega, (ag_rng hI (pb u)).1⟩
/-- a sign more -/
theorem pk_go {u : ST} (hI : Inv u) {k : Int} (h : pk u k) (h1 : k < zbl u) (h2 : ¬ zbu u k = 32) (h5 : k + 1 < 5) (hb : ¬ bgn u (k + 1) 32 = 0) : pk u (k + 1) := by
  obtain ⟨g1, g2, g3, g4⟩ := h
  have hch := iv_ch hI g1.1 h1
  have g3' : ∀ i, 0 ≤ i → i < k + 1 → 32 < zbu u i := fun i a b => by
    by_cases e : i = k
    · rw [e]; omega
    · exact g3 i a (by omega)
  obtain ⟨p, p0, p1, hp⟩ := (bgn_ex 32).mp hb
  have hall := (bg_iff hI (p := p) (j := k + 1) (by omega) g3').mp hp
  refine ⟨by omega, by omega, g3', Int.le_trans (ag_ge (p := p) (by omega) (by omega) ?_) (pb_max u ⟨p0, by omega⟩)⟩
  intro i a b
  exact ⟨by omega, fun q => by have := g3' (i - 1) (by omega) (by omega); omega, hall i a b⟩
theorem fifth {p : Int} (hp : 0 ≤ p ∧ p ≤ 31) : nm (5 * p + 4) = 32 ∧ 58 ≤ nm (5 * p + 0) := by
  obtain ⟨-, t2, t3⟩ := nm_tab ⟨p.toNat, by omega⟩
  have ep : ((⟨p.toNat, by omega⟩ : Fin 32).val : Int) = p := Int.toNat_of_nonneg hp.1
  rw [ep] at t2 t3
  exact ⟨t2, t3⟩
/-- no further: the text ends, or its next sign fits no name -/
theorem pk_end {u : ST} (hI : Inv u) {k : Int} (h : pk u k) (he : k = zbl u ∨ (k < zbl u ∧ ¬ zbu u k = 32 ∧ ¬ (k + 1 < 5 ∧ ¬ bgn u (k + 1) 32 = 0))) : ag u (pb u) = k ∧ ¬ bk u (ag u (pb u)) := by
  obtain ⟨g1, g2, g3, g4⟩ := h
  have hr := ag_rng hI (pb u)
  have hpb := pb_rng u
  have e : ag u (pb u) = k := by
    rcases he with he | ⟨he, h2, h3⟩
    · omega
    · by_cases hq : k < ag u (pb u)
      · exfalso
        have hat := fun i a b => ag_at (u := u) (p := pb u) (i := i) a b
        have hk := hat k g1.1 hq
        by_cases h4 : k = 4
        · have := (fifth hpb).1
          rw [h4] at hk h2
          omega
        · apply h3
          refine ⟨by omega, (bgn_ex 32).mpr ⟨pb u, hpb.1, by omega, ?_⟩⟩
          have hch := iv_ch hI g1.1 he
          refine (bg_iff hI (p := pb u) (j := k + 1) (by omega) (fun i a b => ?_)).mpr (fun i a b => (hat i a (by omega)).2.2.2)
          by_cases e : i = k
          · rw [e]; omega
          · exact g3 i a (by omega)
      · omega
  refine ⟨e, fun q => ?_⟩
  rw [e] at q
  have := g3 (k - 1) (by omega) (by omega)
  omega
/-- a blank behind the signs: either they are a whole name, and the class has found the same point, or no name has just these -/
theorem pk_blank {u : ST} (hI : Inv u) {k : Int} (h : pk u k) (h1 : k < zbl u) (h2 : zbu u k = 32) : (py u k < 0 ∧ py u k = -1 ∧ ag u (pb u) = k ∧ ¬ bk u (ag u (pb u))) ∨ (0 ≤ py u k ∧ py u k = pb u ∧ ag u (pb u) = k + 1 ∧ bk u (ag u (pb u))) := by
  obtain ⟨g1, g2, g3, g4⟩ := h
  have hr := ag_rng hI (pb u)
  have hpb := pb_rng u
  have hat := fun (p : Int) i a b => ag_at (u := u) (p := p) (i := i) a b
  -- no agreement goes beyond the blank
  have hcap : ∀ p : Int, ag u p ≤ k + 1 := fun p => by
    by_cases hq : k + 1 < ag u p
    · have := hat p (k + 1) (by omega) hq
      rw [show k + 1 - 1 = k by omega] at this
      omega
    · omega
  by_cases hk0 : k = 0
  · refine Or.inl ?_
    have e : ag u (pb u) = k := by
      by_cases hq : k < ag u (pb u)
      · have := hat (pb u) k g1.1 hq
        have hf := (fifth hpb).2
        rw [hk0] at this h2
        omega
      · omega
    have e2 : py u k = -1 := by unfold py; rw [if_neg (by omega)]
    exact ⟨by omega, e2, e, by rw [e, hk0]; omega⟩
  · have hpy : py u k = pyn u k 32 := by unfold py; rw [if_pos (by omega)]
    -- what pyn finds
    have hpyn : ∀ n : Nat, n ≤ 32 → (pyn u k n = -1 ∧ ∀ p : Int, 0 ≤ p → p < n → ¬ nmc p = nof u k) ∨ (0 ≤ pyn u k n ∧ pyn u k n < n ∧ nmc (pyn u k n) = nof u k) := by
      intro n
      induction n with
      | zero => intro _; exact Or.inl ⟨rfl, fun p a b => by omega⟩
      | succ n ih =>
        intro hn
        unfold pyn
        split
        · rename_i hc
          exact Or.inr ⟨by omega, by omega, hc⟩
        · rename_i hc
          rcases ih (by omega) with ⟨i1, i2⟩ | ⟨i1, i2, i3⟩
          · refine Or.inl ⟨i1, fun p a b => ?_⟩
            by_cases e : p = n
            · rw [e]; exact hc
            · exact i2 p a (by omega)
          · exact Or.inr ⟨i1, by omega, i3⟩
    have hnw := fun (p : Int) (hp : 0 ≤ p ∧ p ≤ 31) => nw_iff hI (p := p) (k := k) hp (by omega) g3
    rcases hpyn 32 (Nat.le_refl _) with ⟨i1, i2⟩ | ⟨i1, i2, i3⟩
    · refine Or.inl ?_
      have e : ag u (pb u) = k := by
        by_cases hq : k < ag u (pb u)
        · exfalso
          refine i2 (pb u) hpb.1 (by omega) ((hnw (pb u) hpb).mpr ⟨fun i a b => (hat (pb u) i a (by omega)).2.2.2, ?_⟩)
          have := hat (pb u) k g1.1 hq
          omega
        · omega
      refine ⟨by omega, by omega, e, ?_⟩
      rw [e]
      intro q
      have := g3 (k - 1) (by omega) (by omega)
      omega
    · refine Or.inr ?_
      generalize hp0 : pyn u k 32 = p0 at *
      have hw := (hnw p0 ⟨i1, by omega⟩).mp i3
      have hge : k + 1 ≤ ag u p0 := by
        refine ag_ge (by omega) (by omega) (fun i a b => ?_)
        by_cases e : i = k
        · subst e
          exact ⟨h1, fun q => by have := g3 (i - 1) (by omega) (by omega); omega, by rw [h2, hw.2]⟩
        · exact ⟨by omega, fun q => by have := g3 (i - 1) (by omega) (by omega); omega, hw.1 i a (by omega)⟩
      have hmax := pb_max u (p := p0) ⟨i1, by omega⟩
      have e : ag u (pb u) = k + 1 := by have := hcap (pb u); omega
      have hpbn : nmc (pb u) = nof u k := (hnw (pb u) hpb).mpr ⟨fun i a b => (hat (pb u) i a (by omega)).2.2.2, by have := hat (pb u) k g1.1 (by omega); omega⟩
      have hsame : p0 = pb u := by
        have := nm_dis ⟨p0.toNat, by omega⟩ ⟨(pb u).toNat, by omega⟩ (by
          rw [show ((⟨p0.toNat, by omega⟩ : Fin 32).val : Int) = p0 from Int.toNat_of_nonneg i1, show ((⟨(pb u).toNat, by omega⟩ : Fin 32).val : Int) = pb u from Int.toNat_of_nonneg hpb.1, i3, hpbn])
        have h9 := congrArg (fun x : Fin 32 => x.val) this
        dsimp only at h9
        omega
      refine ⟨by omega, by omega, e, ?_⟩
      rw [e]
      exact ⟨by omega, by rw [show k + 1 - 1 = k by omega]; exact h2⟩
/-- what parse leaves behind -/
def paV (u : ST) (v : VT) : VT := if bk u (ag u (pb u)) then (pb u, num (zbu u) (ag u (pb u)) (ds u (ag u (pb u))), ds u (ag u (pb u)), (if ds u (ag u (pb u)) = zbl u ∧ ag u (pb u) < zbl u then 1 else 0), vh v) else (-1, vrs v, ag u (pb u), 0, vh v)
theorem pa_ep (u : ST) (v : VT) : vea (paV u v) = ep u := by
  unfold paV ep
  split <;> rfl
theorem dsn_dg {u : ST} {a : Int} (n : Nat) : ∀ t : Int, t < dsn u a n t → 48 ≤ zbu u (dsn u a n t - 1) ∧ zbu u (dsn u a n t - 1) ≤ 57 := by
  induction n with
  | zero => intro t h; exact absurd h (Int.lt_irrefl t)
  | succ n ih =>
    intro t h
    by_cases hc : t < zbl u ∧ dok u a t (num (zbu u) a t)
    · rw [dsn_go hc] at h ⊢
      by_cases hq : t + 1 < dsn u a n (t + 1)
      · exact ih (t + 1) hq
      · rw [show dsn u a n (t + 1) - 1 = t by omega]; exact hc.2.1
    · rw [dsn_stop hc] at h; exact absurd h (Int.lt_irrefl t)
theorem pa_ip {u : ST} (v : VT) : (vip (paV u v) = 1 ∧ ep u = zbl u ∧ dg u (zbl u) ∧ vrp (paV u v) = pb u ∧ vrs (paV u v) = num (zbu u) (ag u (pb u)) (zbl u)) ∨ (vip (paV u v) = 0 ∧ ¬ (ep u = zbl u ∧ dg u (zbl u))) := by
  by_cases hb : bk u (ag u (pb u))
  · by_cases hd : ds u (ag u (pb u)) = zbl u ∧ ag u (pb u) < zbl u
    · refine Or.inl ?_
      have e : ep u = zbl u := by unfold ep; rw [if_pos hb]; exact hd.1
      have hg : 48 ≤ zbu u (ds u (ag u (pb u)) - 1) ∧ zbu u (ds u (ag u (pb u)) - 1) ≤ 57 := dsn_dg 12 (ag u (pb u)) (by show ag u (pb u) < ds u (ag u (pb u)); omega)
      rw [hd.1] at hg
      unfold paV
      rw [if_pos hb, if_pos hd]
      refine ⟨rfl, e, ⟨by omega, hg⟩, rfl, ?_⟩
      show num (zbu u) (ag u (pb u)) (ds u (ag u (pb u))) = _
      rw [hd.1]
    · refine Or.inr ⟨?_, fun q => hd ?_⟩
      · unfold paV; rw [if_pos hb, if_neg hd]; rfl
      · have := ep_dg q; exact ⟨this.2.1, this.2.2⟩
  · refine Or.inr ⟨?_, fun q => hb (ep_dg q).1⟩
    unfold paV; rw [if_neg hb]; rfl
/-! sines, legs, sums -/
theorem sn_half (q : Int) (h : 0 ≤ q ∧ q ≤ 31) : q.tmod 16 = q % 16 ∧ (8 < q % 16 → (q < 16 → sn (16 - q % 16) = sn q) ∧ (16 ≤ q → -sn (16 - q % 16) = sn q)) ∧ (q % 16 ≤ 8 → (q < 16 → sn (q % 16) = sn q) ∧ (16 ≤ q → -sn (q % 16) = sn q)) := by
  refine ⟨Int.tmod_eq_emod_of_nonneg h.1, ?_⟩
  have key : ∀ k : Fin 32, (8 < (k.val : Int) % 16 → ((k.val : Int) < 16 → sn (16 - (k.val : Int) % 16) = sn (k.val : Int)) ∧ (16 ≤ (k.val : Int) → -sn (16 - (k.val : Int) % 16) = sn (k.val : Int))) ∧ ((k.val : Int) % 16 ≤ 8 → ((k.val : Int) < 16 → sn ((k.val : Int) % 16) = sn (k.val : Int)) ∧ (16 ≤ (k.val : Int) → -sn ((k.val : Int) % 16) = sn (k.val : Int))) := by decide +kernel
  have := key ⟨q.toNat, by omega⟩
  rwa [show ((⟨q.toNat, by omega⟩ : Fin 32).val : Int) = q from Int.toNat_of_nonneg h.1] at this
theorem tm32 {x : Int} (h : 0 ≤ x) : x.tmod 32 = x % 32 := Int.tmod_eq_emod_of_nonneg h
theorem lg_s {u : ST} {ax a b : Int} (h : a ≤ b) : lg u ax a (b + 1) = lg u ax a b + (legc u ax b + mv ax (zse u) (zdr u)) := by
  unfold lg
  rw [sz_s h, show b + 1 - a = (b - a) + 1 by omega, Int.add_mul, Int.one_mul]
  omega
theorem lg_0 (u : ST) (ax a : Int) : lg u ax a a = 0 := by
  unfold lg
  rw [sz_0 (Int.le_refl a), Int.sub_self, Int.zero_mul]; rfl
theorem mv8 {p x units : Int} (h : p % 32 = x % 32) : mv 8 x units = units * sn ((p + 8) % 32) := by
  unfold mv; rw [show (x + 8) % 32 = (p + 8) % 32 by omega]
theorem mv0 {p x units : Int} (h : p = x % 32) : mv 0 x units = units * sn p := by
  unfold mv; rw [show (x + 0) % 32 = p by omega]
theorem sz_zup {f : Int → Int} {i x a b : Int} (h : a ≤ i) (hb : i < b) : sz (zup f i x) a b = sz f a b - f i + x := by
  have lo : ∀ c, a ≤ c → c ≤ i → sz (zup f i x) a c = sz f a c := by
    intro c hc hci
    revert hci
    refine sz_ind (P := fun c => c ≤ i → sz (zup f i x) a c = sz f a c) ?_ ?_ hc
    · intro _; rw [sz_0 (Int.le_refl a), sz_0 (Int.le_refl a)]
    · intro c hc ih hci
      rw [sz_s hc, sz_s hc, ih (by omega), zup_n _ _ (by omega)]
  refine sz_ind (a := i + 1) (P := fun b => sz (zup f i x) a b = sz f a b - f i + x) ?_ ?_ (by omega)
  · rw [sz_s h, sz_s h, lo i h (Int.le_refl i), zup_s]; omega
  · intro c hc ih
    rw [sz_s (by omega), sz_s (by omega), ih, zup_n _ _ (by omega)]; omega
/-- the search for the lost peg begins with speed 0: all points miss alike -/
theorem ms_0 (n e p : Int) : ms n e p 0 = n * n + e * e := by
  unfold ms mv; rw [Int.zero_mul, Int.zero_mul, Int.sub_zero, Int.sub_zero]
theorem zbu_16 {u : ST} (hI : Inv u) (k : Int) : B32 (zbu u k) := by have := iv_bu hI k; omega
