/-! ===== WHAT EVERY CALL ANSWERS, in whole numbers: one value for the class and for the reference ===== -/
/-- the sum over [a, b) -/
def szn (f : Int → Int) (a : Int) : Nat → Int
  | 0 => 0
  | n + 1 => szn f a n + f (a + n)
def sz (f : Int → Int) (a b : Int) : Int := szn f a (b - a).toNat
theorem sz_0 {f : Int → Int} {a b : Int} (h : b ≤ a) : sz f a b = 0 := by
  unfold sz; rw [show (b - a).toNat = 0 by omega]; rfl
theorem sz_s {f : Int → Int} {a b : Int} (h : a ≤ b) : sz f a (b + 1) = sz f a b + f b := by
  unfold sz
  rw [show (b + 1 - a).toNat = (b - a).toNat + 1 by omega, szn, show a + ((b - a).toNat : Int) = b by omega]
theorem sz_ind {P : Int → Prop} {a : Int} (h0 : P a) (hs : ∀ b, a ≤ b → P b → P (b + 1)) {b : Int} (h : a ≤ b) : P b := by
  obtain ⟨n, hn⟩ := Int.eq_ofNat_of_zero_le (show 0 ≤ b - a by omega)
  have key : ∀ n : Nat, P (a + n) := by
    intro n
    induction n with
    | zero => simpa using h0
    | succ n ih => have := hs (a + n) (by omega) ih; rw [show a + ((n + 1 : Nat) : Int) = a + n + 1 by omega]; exact this
  rw [show b = a + n by omega]
  exact key n
theorem sz_rng {f : Int → Int} {a b lo hi : Int} (h : a ≤ b) (hf : ∀ k, lo ≤ f k ∧ f k ≤ hi) : (b - a) * lo ≤ sz f a b ∧ sz f a b ≤ (b - a) * hi := by
  refine sz_ind (P := fun b => (b - a) * lo ≤ sz f a b ∧ sz f a b ≤ (b - a) * hi) ?_ ?_ h
  · rw [sz_0 (Int.le_refl a), Int.sub_self, Int.zero_mul, Int.zero_mul]; exact ⟨Int.le_refl 0, Int.le_refl 0⟩
  · intro b hb ih
    rw [sz_s hb, show b + 1 - a = (b - a) + 1 by omega, Int.add_mul, Int.add_mul, Int.one_mul, Int.one_mul]
    have := hf b
    omega
theorem sz_add_c {f : Int → Int} {a b c : Int} (h : a ≤ b) : sz (fun k => f k + c) a b = sz f a b + (b - a) * c := by
  refine sz_ind (P := fun b => sz (fun k => f k + c) a b = sz f a b + (b - a) * c) ?_ ?_ h
  · rw [sz_0 (Int.le_refl a), sz_0 (Int.le_refl a), Int.sub_self, Int.zero_mul]; rfl
  · intro b hb ih
    rw [sz_s hb, sz_s hb, ih, show b + 1 - a = (b - a) + 1 by omega, Int.add_mul, Int.one_mul]
    omega
/-- the first place of [a, b) where f isn't 0; -1: none -/
def ffn (f : Int → Int) : Nat → Int → Int
  | 0, _ => -1
  | n + 1, a => if f a = 0 then ffn f n (a + 1) else a
def ff (f : Int → Int) (a b : Int) : Int := ffn f (b - a).toNat a
theorem ff_0 {f : Int → Int} {a b : Int} (h : b ≤ a) : ff f a b = -1 := by
  unfold ff; rw [show (b - a).toNat = 0 by omega]; rfl
theorem ff_stop {f : Int → Int} {a b : Int} (h : a < b) (hf : ¬ f a = 0) : ff f a b = a := by
  unfold ff; rw [show (b - a).toNat = (b - (a + 1)).toNat + 1 by omega, ffn, if_neg hf]
theorem ff_go {f : Int → Int} {a b : Int} (h : a < b) (hf : f a = 0) : ff f a b = ff f (a + 1) b := by
  unfold ff; rw [show (b - a).toNat = (b - (a + 1)).toNat + 1 by omega, ffn, if_pos hf]
theorem ff_rng {f : Int → Int} {a b : Int} : ff f a b = -1 ∨ (a ≤ ff f a b ∧ ff f a b < b ∧ ¬ f (ff f a b) = 0) := by
  have key : ∀ (n : Nat) (a : Int), (b - a).toNat ≤ n → ff f a b = -1 ∨ (a ≤ ff f a b ∧ ff f a b < b ∧ ¬ f (ff f a b) = 0) := by
    intro n
    induction n with
    | zero => intro a h; exact Or.inl (ff_0 (by omega))
    | succ n ih =>
      intro a h
      by_cases hb : b ≤ a
      · exact Or.inl (ff_0 hb)
      · by_cases hf : f a = 0
        · rw [ff_go (by omega) hf]
          rcases ih (a + 1) (by omega) with q | ⟨q1, q2, q3⟩
          · exact Or.inl q
          · exact Or.inr ⟨by omega, q2, q3⟩
        · rw [ff_stop (by omega) hf]
          exact Or.inr ⟨Int.le_refl a, by omega, hf⟩
  exact key _ a (Nat.le_refl _)
theorem ff_snoc {f : Int → Int} {a b : Int} (h : a ≤ b) (h0 : 0 ≤ a) : ff f a (b + 1) = if ff f a b < 0 then (if f b = 0 then -1 else b) else ff f a b := by
  have key : ∀ (n : Nat) (a : Int), 0 ≤ a → a ≤ b → (b - a).toNat ≤ n → ff f a (b + 1) = if ff f a b < 0 then (if f b = 0 then -1 else b) else ff f a b := by
    intro n
    induction n with
    | zero =>
      intro a h0 h hn
      have e : a = b := by omega
      subst e
      rw [ff_0 (Int.le_refl a), if_pos (by decide)]
      by_cases hf : f a = 0
      · rw [ff_go (by omega) hf, if_pos hf, ff_0 (Int.le_refl _)]
      · rw [ff_stop (by omega) hf, if_neg hf]
    | succ n ih =>
      intro a h0 h hn
      by_cases e : a = b
      · subst e
        rw [ff_0 (Int.le_refl a), if_pos (by decide)]
        by_cases hf : f a = 0
        · rw [ff_go (by omega) hf, if_pos hf, ff_0 (Int.le_refl _)]
        · rw [ff_stop (by omega) hf, if_neg hf]
      · by_cases hf : f a = 0
        · rw [ff_go (by omega) hf, ff_go (by omega) hf]
          exact ih (a + 1) (by omega) (by omega) (by omega)
        · rw [ff_stop (by omega) hf, ff_stop (by omega) hf, if_neg (by omega)]
  exact key _ a h0 h (Nat.le_refl _)
/-- the last place of [0, m] where f isn't 0, or 0 -/
def lfn (f : Int → Int) : Nat → Int
  | 0 => 0
  | n + 1 => if f ((n : Int) + 1) = 0 then lfn f n else (n : Int) + 1
def lf (f : Int → Int) (m : Int) : Int := lfn f m.toNat
theorem lf_0 {f : Int → Int} {m : Int} (h : m ≤ 0) : lf f m = 0 := by
  unfold lf; rw [show m.toNat = 0 by omega]; rfl
theorem lf_stop {f : Int → Int} {m : Int} (h : 0 ≤ m) (hf : ¬ f m = 0) : lf f m = m := by
  by_cases h0 : m = 0
  · rw [lf_0 (by omega), h0]
  · unfold lf
    rw [show m.toNat = (m - 1).toNat + 1 by omega, lfn, show ((m - 1).toNat : Int) + 1 = m by omega, if_neg hf]
theorem lf_go {f : Int → Int} {m : Int} (h : 0 < m) (hf : f m = 0) : lf f m = lf f (m - 1) := by
  unfold lf
  rw [show m.toNat = (m - 1).toNat + 1 by omega, lfn, show ((m - 1).toNat : Int) + 1 = m by omega, if_pos hf]
theorem lf_rng {f : Int → Int} {m : Int} (h : 0 ≤ m) : 0 ≤ lf f m ∧ lf f m ≤ m := by
  have key : ∀ n : Nat, 0 ≤ lfn f n ∧ lfn f n ≤ n := by
    intro n
    induction n with
    | zero => exact ⟨Int.le_refl 0, Int.le_refl 0⟩
    | succ n ih =>
      unfold lfn
      by_cases hf : f ((n : Int) + 1) = 0
      · rw [if_pos hf]; omega
      · rw [if_neg hf]; omega
  have := key m.toNat
  unfold lf
  omega
/-- fixes, movements, legs, errors, positions; an axis is 8 (north) or 0 (east) -/
def fxc (u : ST) (ax m : Int) : Int := if ax = 8 then zfn u m else zfe u m
def mv (ax p units : Int) : Int := units * sn ((p + ax) % 32)
def legc (u : ST) (ax k : Int) : Int := if zlo u k = 0 then mv ax (zpo u k + zle u k) (zsp u k) else 0
def lg (u : ST) (ax a b : Int) : Int := (b - a) * mv ax (zse u) (zdr u) + sz (legc u ax) a b
def er (u : ST) (ax a b : Int) : Int := fxc u ax b - fxc u ax a - lg u ax a b
def la (u : ST) (m : Int) : Int := lf (zfx u) m
def nf (u : ST) (m : Int) : Int := ff (zfx u) (m + 1) (zpg u + 1)
def rk (u : ST) (ax m : Int) : Int := fxc u ax (la u m) + lg u ax (la u m) m
def co (u : ST) (ax m : Int) : Int := if la u m = m ∨ nf u m ≤ la u m then rk u ax m else rk u ax m + (er u ax (la u m) (nf u m) * (m - la u m)) / (nf u m - la u m)
def df (u : ST) (ax a b : Int) : Int := co u ax b - co u ax a
/-- the root, bit by bit -/
def isn (s : Int) : Nat → Int
  | 0 => 0
  | n + 1 => if (isn s n + 2 ^ (30 - n)) * (isn s n + 2 ^ (30 - n)) ≤ s then isn s n + 2 ^ (30 - n) else isn s n
def isq (s : Int) : Int := isn s 31
def dist (u : ST) (a b : Int) : Int := isq (df u 8 a b * df u 8 a b + df u 0 a b * df u 0 a b)
/-- the nearest point -/
def adv (n e p : Int) : Int := n * mv 8 p 1 + e * mv 0 p 1
def npn (n e : Int) : Nat → Int
  | 0 => 0
  | k + 1 => if adv n e (npn n e k) < adv n e ((k : Int) + 1) then (k : Int) + 1 else npn n e k
def np (n e : Int) : Int := npn n e 31
def eOR : Int := -9000000000000000001
def eNP : Int := -9000000000000000002
def eNM : Int := -9000000000000000003
def eFU : Int := -9000000000000000004
def eIP : Int := -9000000000000000005
def eWS : Int := -9000000000000000006
def eNO : Int := -9000000000000000007
def br (u : ST) (a b : Int) : Int := if df u 8 a b = 0 ∧ df u 0 a b = 0 then eNO else np (df u 8 a b) (df u 0 a b)
/-- the likeliest peg -/
def ms (n e p v : Int) : Int := (n - mv 8 p v) * (n - mv 8 p v) + (e - mv 0 p v) * (e - mv 0 p v)
def lkp (n e le v : Int) : Nat → Int × Int → Int × Int
  | 0, s => s
  | p + 1, s => if ms n e ((p : Int) + le) v < (lkp n e le v p s).1 then (ms n e ((p : Int) + le) v, 1000 * (p : Int) + v) else lkp n e le v p s
def lkv (n e le : Int) : Nat → Int × Int
  | 0 => (n * n + e * e, 0)
  | v + 1 => lkp n e le ((v : Int) + 1) 32 (lkv n e le v)
def lk (n e le : Int) : Int := (lkv n e le 200).2
def fdl (u : ST) (k : Int) : Int := if zlo u k = 0 then eWS else if nf u k = -1 then eNO else if 1 < sz (zlo u) (la u k) (nf u k) then eWS else lk (er u 8 (la u k) (nf u k)) (er u 0 (la u k) (nf u k)) (zle u k)
/-- the digest -/
def mx (h x : Int) : Int := 31 * h + x
def ptc (u : ST) (k : Int) : Int := if zlo u k = 0 then zpo u k else eWS
def spc (u : ST) (k : Int) : Int := if zlo u k = 0 then zsp u k else eWS
def dgpn (u : ST) (h : Int) : Nat → Int
  | 0 => h
  | k + 1 => mx (mx (mx (dgpn u h k) (ptc u k)) (spc u k)) (zle u k)
def dgp (u : ST) (h k : Int) : Int := dgpn u h k.toNat
def dgmn (u : ST) (h : Int) : Nat → Int
  | 0 => h
  | k + 1 => mx (mx (mx (mx (mx (dgmn u h k) (zfx u k)) (rk u 8 k)) (rk u 0 k)) (co u 8 k)) (co u 0 k)
def dgm (u : ST) (h k : Int) : Int := dgmn u h k.toNat
def dgbn (u : ST) (h : Int) : Nat → Int
  | 0 => h
  | k + 1 => mx (dgbn u h k) (zbu u k)
def dgb (u : ST) (h k : Int) : Int := dgbn u h k.toNat
theorem dgp_0 {u : ST} {h k : Int} (hk : k ≤ 0) : dgp u h k = h := by unfold dgp; rw [show k.toNat = 0 by omega]; rfl
theorem dgm_0 {u : ST} {h k : Int} (hk : k ≤ 0) : dgm u h k = h := by unfold dgm; rw [show k.toNat = 0 by omega]; rfl
theorem dgb_0 {u : ST} {h k : Int} (hk : k ≤ 0) : dgb u h k = h := by unfold dgb; rw [show k.toNat = 0 by omega]; rfl
theorem dgp_s {u : ST} {h k : Int} (hk : 0 ≤ k) : dgp u h (k + 1) = mx (mx (mx (dgp u h k) (ptc u k)) (spc u k)) (zle u k) := by
  unfold dgp; rw [show (k + 1).toNat = k.toNat + 1 by omega, dgpn, Int.toNat_of_nonneg hk]
theorem dgm_s {u : ST} {h k : Int} (hk : 0 ≤ k) : dgm u h (k + 1) = mx (mx (mx (mx (mx (dgm u h k) (zfx u k)) (rk u 8 k)) (rk u 0 k)) (co u 8 k)) (co u 0 k) := by
  unfold dgm; rw [show (k + 1).toNat = k.toNat + 1 by omega, dgmn, Int.toNat_of_nonneg hk]
theorem dgb_s {u : ST} {h k : Int} (hk : 0 ≤ k) : dgb u h (k + 1) = mx (dgb u h k) (zbu u k) := by
  unfold dgb; rw [show (k + 1).toNat = k.toNat + 1 by omega, dgbn, Int.toNat_of_nonneg hk]
def fl (u : ST) : Int := ff (zlo u) 0 (zpg u)
def dig4 (u : ST) : Int := mx (mx (dgm u (mx (mx (dgp u (mx 1811 (zpg u)) (zpg u)) (zse u)) (zdr u)) (zpg u + 1)) (dist u 0 (zpg u))) (br u 0 (zpg u))
def dig5 (u : ST) : Int := if fl u = -1 then dig4 u else mx (dig4 u) (fdl u (fl u))
def dig (u : ST) : Int := dgb u (mx (dig5 u) (zbl u)) (zbl u)
/-- the peg that is written in the buffer -/
def agn (u : ST) (p : Int) : Nat → Int → Int
  | 0, j => j
  | n + 1, j => if j < zbl u ∧ j < 5 ∧ ¬ (0 < j ∧ zbu u (j - 1) = 32) ∧ zbu u j = nm (5 * p + j) then agn u p n (j + 1) else j
def ag (u : ST) (p : Int) : Int := agn u p 5 0
def pbn (u : ST) : Nat → Int
  | 0 => 0
  | k + 1 => if ag u (pbn u k) < ag u ((k : Int) + 1) then (k : Int) + 1 else pbn u k
def pb (u : ST) : Int := pbn u 31
def numn (f : Int → Int) (a : Int) : Nat → Int
  | 0 => 0
  | n + 1 => 10 * numn f a n + f (a + n) - 48
def num (f : Int → Int) (a b : Int) : Int := numn f a (b - a).toNat
theorem num_0 {f : Int → Int} {a b : Int} (h : b ≤ a) : num f a b = 0 := by unfold num; rw [show (b - a).toNat = 0 by omega]; rfl
theorem num_s {f : Int → Int} {a b : Int} (h : a ≤ b) : num f a (b + 1) = 10 * num f a b + f b - 48 := by
  unfold num
  rw [show (b + 1 - a).toNat = (b - a).toNat + 1 by omega, numn, show a + ((b - a).toNat : Int) = b by omega]
/-- a digit may stand at t, behind the blank at a - 1, where the digits so far make x -/
abbrev dok (u : ST) (a t x : Int) : Prop := (48 ≤ zbu u t ∧ zbu u t ≤ 57) ∧ (t = a ∨ (¬ x = 0 ∧ 10 * x + zbu u t - 48 ≤ 200))
def dsn (u : ST) (a : Int) : Nat → Int → Int
  | 0, t => t
  | n + 1, t => if t < zbl u ∧ dok u a t (num (zbu u) a t) then dsn u a n (t + 1) else t
def ds (u : ST) (a : Int) : Int := dsn u a 12 a
abbrev bk (u : ST) (n : Int) : Prop := 0 < n ∧ zbu u (n - 1) = 32
abbrev dg (u : ST) (n : Int) : Prop := 0 < n ∧ 48 ≤ zbu u (n - 1) ∧ zbu u (n - 1) ≤ 57
def ep (u : ST) : Int := if bk u (ag u (pb u)) then ds u (ag u (pb u)) else ag u (pb u)
/-- the calls: what they answer (..R), what the board is behind them (..U) -/
def apR (u : ST) (c : Int) : Int := if 32 ≤ c ∧ c ≤ 126 then (if zbl u < 12 then zbl u + 1 else eFU) else eOR
def apU (u : ST) (c : Int) : ST := if (32 ≤ c ∧ c ≤ 126) ∧ zbl u < 12 then ubl (ubu u (zup (zbu u) (zbl u) c)) (zbl u + 1) else u
def pgU (u : ST) (p v : Int) : ST := ule (ulo (usp (upo (upg u (zpg u + 1)) (zup (zpo u) (zpg u) p)) (zup (zsp u) (zpg u) v)) (zup (zlo u) (zpg u) 0)) (zup (zle u) (zpg u) 0)
def afR (u : ST) : Int := if ep u = zbl u ∧ dg u (zbl u) then (if zpg u < 48 then zpg u else eFU) else eIP
def afU (u : ST) : ST := if (ep u = zbl u ∧ dg u (zbl u)) ∧ zpg u < 48 then pgU (ubl u 0) (pb u) (num (zbu u) (ag u (pb u)) (zbl u)) else u
abbrev okP (p v : Int) : Prop := (0 ≤ p ∧ p ≤ 31) ∧ 0 ≤ v ∧ v ≤ 200
def adR (u : ST) (p v : Int) : Int := if okP p v then (if zpg u < 48 then zpg u else eFU) else eOR
def adU (u : ST) (p v : Int) : ST := if okP p v ∧ zpg u < 48 then pgU u p v else u
abbrev isP (u : ST) (k : Int) : Prop := 0 ≤ k ∧ k ≤ zpg u - 1
def reR (u : ST) (k p v : Int) : Int := if isP u k then (if okP p v then zlo u k else eOR) else eNP
def reU (u : ST) (k p v : Int) : ST := if isP u k ∧ okP p v then ulo (usp (upo u (zup (zpo u) k p)) (zup (zsp u) k v)) (zup (zlo u) k 0) else u
def rlR (u : ST) : Int := if zpg u ≤ 0 then eNO else zpg u - 1
def rlU (u : ST) : ST := if zpg u ≤ 0 then u else upg (ufx u (zup (zfx u) (zpg u) 0)) (zpg u - 1)
def loR (u : ST) (k : Int) : Int := if isP u k then (if zlo u k = 0 then sz (zup (zlo u) k 1) 0 (zpg u) else eWS) else eNP
def loU (u : ST) (k : Int) : ST := if isP u k ∧ zlo u k = 0 then ulo u (zup (zlo u) k 1) else u
def slR (u : ST) (k w : Int) : Int := if isP u k then (if -2 ≤ w ∧ w ≤ 2 then zle u k else eOR) else eNP
def slU (u : ST) (k w : Int) : ST := if isP u k ∧ -2 ≤ w ∧ w ≤ 2 then ule u (zup (zle u) k w) else u
abbrev okC (a b : Int) : Prop := (0 ≤ a ∧ a ≤ 31) ∧ 0 ≤ b ∧ b ≤ 50
def scR (u : ST) (a b : Int) : Int := if okC a b then zdr u else eOR
def scU (u : ST) (a b : Int) : ST := if okC a b then udr (use u a) b else u
def poR (u : ST) (k : Int) : Int := if isP u k then ptc u k else eNP
def spR (u : ST) (k : Int) : Int := if isP u k then spc u k else eNP
def stR (u : ST) (p : Int) : Int := if 0 ≤ p ∧ p ≤ 31 then sz (fun k => if zlo u k = 0 ∧ zpo u k = p then zsp u k else 0) 0 (zpg u) else eOR
abbrev okF (n e : Int) : Prop := (-200000000 ≤ n ∧ n ≤ 200000000) ∧ -200000000 ≤ e ∧ e ≤ 200000000
abbrev isF (u : ST) (m : Int) : Prop := 1 ≤ m ∧ m ≤ zpg u
abbrev isM (u : ST) (m : Int) : Prop := 0 ≤ m ∧ m ≤ zpg u
def sfR (u : ST) (m n e : Int) : Int := if isF u m then (if okF n e then sz (zup (zfx u) m 1) 0 (zpg u + 1) else eOR) else eNM
def sfU (u : ST) (m n e : Int) : ST := if isF u m ∧ okF n e then ufe (ufn (ufx u (zup (zfx u) m 1)) (zup (zfn u) m n)) (zup (zfe u) m e) else u
def rfR (u : ST) (m : Int) : Int := if isF u m then (if zfx u m = 0 then eNO else sz (zup (zfx u) m 0) 0 (zpg u + 1)) else eNM
def rfU (u : ST) (m : Int) : ST := if isF u m ∧ ¬ zfx u m = 0 then ufx u (zup (zfx u) m 0) else u
def rkR (u : ST) (ax m : Int) : Int := if isM u m then rk u ax m else eNM
def coR (u : ST) (ax m : Int) : Int := if isM u m then co u ax m else eNM
def diR (u : ST) (a b : Int) : Int := if isM u a ∧ isM u b then dist u a b else eNM
def brR (u : ST) (a b : Int) : Int := if isM u a ∧ isM u b then br u a b else eNM
def fdR (u : ST) (k : Int) : Int := if isP u k then fdl u k else eNP
