/-! ===== THE STATE of a board, in whole numbers: the class and the reference share it ===== -/
abbrev ST : Type := Int × Int × Int × Int × (Int → Int) × (Int → Int) × (Int → Int) × (Int → Int) × (Int → Int) × (Int → Int) × (Int → Int) × (Int → Int)
def zbl (u : ST) : Int := u.1
def zpg (u : ST) : Int := u.2.1
def zse (u : ST) : Int := u.2.2.1
def zdr (u : ST) : Int := u.2.2.2.1
def zbu (u : ST) : Int → Int := u.2.2.2.2.1
def zpo (u : ST) : Int → Int := u.2.2.2.2.2.1
def zsp (u : ST) : Int → Int := u.2.2.2.2.2.2.1
def zle (u : ST) : Int → Int := u.2.2.2.2.2.2.2.1
def zlo (u : ST) : Int → Int := u.2.2.2.2.2.2.2.2.1
def zfx (u : ST) : Int → Int := u.2.2.2.2.2.2.2.2.2.1
def zfn (u : ST) : Int → Int := u.2.2.2.2.2.2.2.2.2.2.1
def zfe (u : ST) : Int → Int := u.2.2.2.2.2.2.2.2.2.2.2
def ubl (u : ST) (x : Int) : ST := (x, u.2)
def upg (u : ST) (x : Int) : ST := (u.1, x, u.2.2)
def use (u : ST) (x : Int) : ST := (u.1, u.2.1, x, u.2.2.2)
def udr (u : ST) (x : Int) : ST := (u.1, u.2.1, u.2.2.1, x, u.2.2.2.2)
def ubu (u : ST) (f : Int → Int) : ST := (u.1, u.2.1, u.2.2.1, u.2.2.2.1, f, u.2.2.2.2.2)
def upo (u : ST) (f : Int → Int) : ST := (u.1, u.2.1, u.2.2.1, u.2.2.2.1, u.2.2.2.2.1, f, u.2.2.2.2.2.2)
def usp (u : ST) (f : Int → Int) : ST := (u.1, u.2.1, u.2.2.1, u.2.2.2.1, u.2.2.2.2.1, u.2.2.2.2.2.1, f, u.2.2.2.2.2.2.2)
def ule (u : ST) (f : Int → Int) : ST := (u.1, u.2.1, u.2.2.1, u.2.2.2.1, u.2.2.2.2.1, u.2.2.2.2.2.1, u.2.2.2.2.2.2.1, f, u.2.2.2.2.2.2.2.2)
def ulo (u : ST) (f : Int → Int) : ST := (u.1, u.2.1, u.2.2.1, u.2.2.2.1, u.2.2.2.2.1, u.2.2.2.2.2.1, u.2.2.2.2.2.2.1, u.2.2.2.2.2.2.2.1, f, u.2.2.2.2.2.2.2.2.2)
def ufx (u : ST) (f : Int → Int) : ST := (u.1, u.2.1, u.2.2.1, u.2.2.2.1, u.2.2.2.2.1, u.2.2.2.2.2.1, u.2.2.2.2.2.2.1, u.2.2.2.2.2.2.2.1, u.2.2.2.2.2.2.2.2.1, f, u.2.2.2.2.2.2.2.2.2.2)
def ufn (u : ST) (f : Int → Int) : ST := (u.1, u.2.1, u.2.2.1, u.2.2.2.1, u.2.2.2.2.1, u.2.2.2.2.2.1, u.2.2.2.2.2.2.1, u.2.2.2.2.2.2.2.1, u.2.2.2.2.2.2.2.2.1, u.2.2.2.2.2.2.2.2.2.1, f, u.2.2.2.2.2.2.2.2.2.2.2)
def ufe (u : ST) (f : Int → Int) : ST := (u.1, u.2.1, u.2.2.1, u.2.2.2.1, u.2.2.2.2.1, u.2.2.2.2.2.1, u.2.2.2.2.2.2.1, u.2.2.2.2.2.2.2.1, u.2.2.2.2.2.2.2.2.1, u.2.2.2.2.2.2.2.2.2.1, u.2.2.2.2.2.2.2.2.2.2.1, f)
/-- what the reference holds besides: readPoint, readSpeed, errorAt, isPeg, h -/
abbrev VT : Type := Int × Int × Int × Int × Int
def vrp (v : VT) : Int := v.1
def vrs (v : VT) : Int := v.2.1
def vea (v : VT) : Int := v.2.2.1
def vip (v : VT) : Int := v.2.2.2.1
def vh (v : VT) : Int := v.2.2.2.2
def wrp (v : VT) (x : Int) : VT := (x, v.2)
def wrs (v : VT) (x : Int) : VT := (v.1, x, v.2.2)
def wea (v : VT) (x : Int) : VT := (v.1, v.2.1, x, v.2.2.2)
def wip (v : VT) (x : Int) : VT := (v.1, v.2.1, v.2.2.1, x, v.2.2.2.2)
def wh (v : VT) (x : Int) : VT := (v.1, v.2.1, v.2.2.1, v.2.2.2.1, x)
/-- where things lie: the classes' slots, the cells of the class's object, those of the reference's, the array classes, SIN, the text and its bytes -/
abbrev GG : Type := va_G × (Nat → Nat) × (Nat → Nat) × (ClassId × ClassId × ClassId) × (Nat × Nat × Nat)
def gD (g : GG) : va_G := g.1
def gX (g : GG) : Nat → Nat := g.2.1
def gM (g : GG) : Nat → Nat := g.2.2.1
def gI (g : GG) : ClassId := g.2.2.2.1.1
def gZ (g : GG) : ClassId := g.2.2.2.1.2.1
def gJ (g : GG) : ClassId := g.2.2.2.1.2.2
def gS (g : GG) : Nat := g.2.2.2.2.1
def gA (g : GG) : Nat := g.2.2.2.2.2.1
def gB (g : GG) : Nat := g.2.2.2.2.2.2
def gT (g : GG) : List (ClassId × FieldType) := [(gI g, .int), (gZ g, .boolean), (gJ g, .long)]
def wX (g : GG) (u : ST) : va_W := [
  (gX g 0, .inr (0, [.ref (gX g 1), .int (iI (zbl u)), .int (iI (zpg u)), .ref (gX g 2), .ref (gX g 3), .ref (gX g 4), .ref (gX g 5), .int (iI (zse u)), .int (iI (zdr u)), .ref (gX g 6), .ref (gX g 7), .ref (gX g 8)])),
  (gX g 1, .inl (gI g, 12, .inl (fA (zbu u)))), (gX g 2, .inl (gI g, 48, .inl (fA (zpo u)))), (gX g 3, .inl (gI g, 48, .inl (fA (zsp u)))), (gX g 4, .inl (gI g, 48, .inl (fA (zle u)))),
  (gX g 5, .inl (gZ g, 48, .inl (fA (zlo u)))), (gX g 6, .inl (gZ g, 49, .inl (fA (zfx u)))), (gX g 7, .inl (gI g, 49, .inl (fA (zfn u)))), (gX g 8, .inl (gI g, 49, .inl (fA (zfe u))))]
def wM (g : GG) (u : ST) (v : VT) : va_W := [
  (gM g 0, .inr (1, [.int (iI (zbl u)), .ref (gM g 1), .int (iI (zpg u)), .ref (gM g 2), .ref (gM g 3), .ref (gM g 4), .ref (gM g 5), .int (iI (zse u)), .int (iI (zdr u)), .ref (gM g 6), .ref (gM g 7), .ref (gM g 8), .int (iI (vrp v)), .int (iI (vrs v)), .int (iI (vea v)), .int (iI (vip v)), .long (jI (vh v))])),
  (gM g 1, .inl (gI g, 12, .inl (fA (zbu u)))), (gM g 2, .inl (gI g, 48, .inl (fA (zpo u)))), (gM g 3, .inl (gI g, 48, .inl (fA (zsp u)))), (gM g 4, .inl (gI g, 48, .inl (fA (zle u)))),
  (gM g 5, .inl (gZ g, 48, .inl (fA (zlo u)))), (gM g 6, .inl (gZ g, 49, .inl (fA (zfx u)))), (gM g 7, .inl (gJ g, 49, .inr (.inl (fJ (zfn u))))), (gM g 8, .inl (gJ g, 49, .inr (.inl (fJ (zfe u)))))]
/-- the table of sines -/
def snL : List Int := [0, 1951, 3827, 5556, 7071, 8315, 9239, 9808, 10000, 9808, 9239, 8315, 7071, 5556, 3827, 1951, 0, -1951, -3827, -5556, -7071, -8315, -9239, -9808, -10000, -9808, -9239, -8315, -7071, -5556, -3827, -1951]
def sn (i : Int) : Int := snL.getD i.toNat 0
/-- the characters of the names' text -/
def nmL : List Int := [78, 32, 32, 32, 32, 78, 98, 69, 32, 32, 78, 78, 69, 32, 32, 78, 69, 98, 78, 32, 78, 69, 32, 32, 32, 78, 69, 98, 69, 32, 69, 78, 69, 32, 32, 69, 98, 78, 32, 32, 69, 32, 32, 32, 32, 69, 98, 83, 32, 32, 69, 83, 69, 32, 32, 83, 69, 98, 69, 32, 83, 69, 32, 32, 32, 83, 69, 98, 83, 32, 83, 83, 69, 32, 32, 83, 98, 69, 32, 32, 83, 32, 32, 32, 32, 83, 98, 87, 32, 32, 83, 83, 87, 32, 32, 83, 87, 98, 83, 32, 83, 87, 32, 32, 32, 83, 87, 98, 87, 32, 87, 83, 87, 32, 32, 87, 98, 83, 32, 32, 87, 32, 32, 32, 32, 87, 98, 78, 32, 32, 87, 78, 87, 32, 32, 78, 87, 98, 87, 32, 78, 87, 32, 32, 32, 78, 87, 98, 78, 32, 78, 78, 87, 32, 32, 78, 98, 87, 32, 32]
def nm (i : Int) : Int := nmL.getD i.toNat 0
def nmT : String := "N    NbE  NNE  NEbN NE   NEbE ENE  EbN  E    EbS  ESE  SEbE SE   SEbS SSE  SbE  S    SbW  SSW  SWbS SW   SWbW WSW  WbS  W    WbN  WNW  NWbW NW   NWbN NNW  NbW  "
def nmB : List Int32 := nmL.map iI
/-- the static parts of the class: SIN, the text, String.COMPACT_STRINGS, the formatter that nobody asks -/
def ZS (A : Nat → Prop) (g : GG) (U : State) (H : Heap) : Prop :=
  va_Z "TraverseBoard" "SIN" "[I" (.ref (gS g)) A U H ∧ va_T .int (gS g) 32 (fun k => .int (iI (sn (k : Int)))) A U H ∧ vk_R RX0 81 nmT (gA g) U ∧
  vk_S 1 [160] [nmB] (fun _ => gA g) (fun _ => gB g) A U H ∧ va_Z "java/lang/String" "COMPACT_STRINGS" "Z" (.int 1) A U H ∧ va_Zq "jdk/internal/util/Preconditions" "SIOOBE_FORMATTER" "Ljava/util/function/BiFunction;" A U H
def nA : Nat → Prop := fun _ => False
theorem ZS.kept {A : Nat → Prop} {g : GG} {U : State} {H H1 : Heap} (h : ZS A g U H) (hq : ∀ a : Nat, a < H.size → ¬ A a → H1[a]? = H[a]?) : ZS A g U H1 :=
  ⟨h.1.kept hq, h.2.1.kept hq, h.2.2.1, h.2.2.2.1.kept hq, h.2.2.2.2.1.kept hq, h.2.2.2.2.2.kept hq⟩
theorem ZS.narrow {A B : Nat → Prop} {g : GG} {U : State} {H : Heap} (h : ZS A g U H) (hq : ∀ q, B q → A q) : ZS B g U H :=
  ⟨h.1.narrow hq, h.2.1.narrow hq, h.2.2.1, h.2.2.2.1.narrow hq, h.2.2.2.2.1.narrow hq, h.2.2.2.2.2.narrow hq⟩
theorem ZS.warm {A : Nat → Prop} {g : GG} {s U : State} {H : Heap} (h : ZS A g s H) (hW : s.WarmedH U.vm) : ZS A g U H :=
  ⟨h.1.moved hW.alike, h.2.1.moved hW.alike, h.2.2.1.warm hW, h.2.2.2.1.moved hW.alike, h.2.2.2.2.1.moved hW.alike, h.2.2.2.2.2.moved hW.alike⟩
theorem ZS.same {A : Nat → Prop} {g : GG} {u U : State} {H : Heap} (h : ZS A g u H) (hv : U.vm = u.vm) : ZS A g U H := by
  have hA : u.vm.Alike U.vm := by rw [hv]; exact Vm.Alike.refl _
  exact ⟨h.1.moved hA, h.2.1.moved hA, vk_R.same hv h.2.2.1, h.2.2.2.1.moved hA, h.2.2.2.2.1.moved hA, h.2.2.2.2.2.moved hA⟩
/-- the pictures: the class's object with its statics; the same without (for methods that write); the reference's -/
def PX (g : GG) (u : ST) (U : State) (H : Heap) : Prop := va_P (gD g) vwCl (wX g u) H ∧ va_K (gD g) vwCl (gT g) U ∧ ZS nA g U H
def PY (g : GG) (u : ST) (U : State) (H : Heap) : Prop := va_P (gD g) vwCl (wX g u) H ∧ va_K (gD g) vwCl (gT g) U
def PM (g : GG) (u : ST) (v : VT) (U : State) (H : Heap) : Prop := va_P (gD g) vwCl (wM g u v) H ∧ va_K (gD g) vwCl (gT g) U
def PT (U : State) (H : Heap) : Prop := True
def PZ (g : GG) (U : State) (H : Heap) : Prop := ZS nA g U H
theorem PX_blind (g : GG) (u : ST) : z_blind (PX g u) := fun U gf mk a h => ⟨h.1, va_K.moved (u := U) (U := U.calling gf mk a) (Vm.Alike.refl U.vm) h.2.1, ZS.same (u := U) (U := U.calling gf mk a) h.2.2 rfl⟩
theorem PY_blind (g : GG) (u : ST) : z_blind (PY g u) := fun U gf mk a h => ⟨h.1, va_K.moved (u := U) (U := U.calling gf mk a) (Vm.Alike.refl U.vm) h.2⟩
theorem PM_blind (g : GG) (u : ST) (v : VT) : z_blind (PM g u v) := fun U gf mk a h => ⟨h.1, va_K.moved (u := U) (U := U.calling gf mk a) (Vm.Alike.refl U.vm) h.2⟩
theorem PT_blind : z_blind PT := fun _ _ _ _ _ => trivial
theorem PZ_blind (g : GG) : z_blind (PZ g) := fun U gf mk a h => ZS.same (u := U) (U := U.calling gf mk a) h rfl
theorem PX_mv {g : GG} {u : ST} {s : State} {H : Heap} (h : PX g u s H) : ∀ U : State, U.heap = H → s.WarmedH U.vm → PX g u U U.heap := fun U hU hW => by
  subst hU
  exact ⟨h.1, va_K.moved hW.alike h.2.1, h.2.2.warm hW⟩
theorem PY_mv {g : GG} {u : ST} {s : State} {H : Heap} (hP : va_P (gD g) vwCl (wX g u) H) (hK : va_K (gD g) vwCl (gT g) s) : ∀ U : State, U.heap = H → s.WarmedH U.vm → PY g u U U.heap := fun U hU hW => by
  subst hU
  exact ⟨hP, va_K.moved hW.alike hK⟩
theorem PM_mv {g : GG} {u : ST} {v : VT} {s : State} {H : Heap} (hP : va_P (gD g) vwCl (wM g u v) H) (hK : va_K (gD g) vwCl (gT g) s) : ∀ U : State, U.heap = H → s.WarmedH U.vm → PM g u v U U.heap := fun U hU hW => by
  subst hU
  exact ⟨hP, va_K.moved hW.alike hK⟩
theorem PT_mv {s : State} {H : Heap} : ∀ U : State, U.heap = H → s.WarmedH U.vm → PT U U.heap := fun _ _ _ => trivial
theorem PZ_mv {g : GG} {s : State} {H : Heap} (h : ZS nA g s H) : ∀ U : State, U.heap = H → s.WarmedH U.vm → PZ g U U.heap := fun U hU hW => by
  subst hU
  exact h.warm hW
theorem rcX {g : GG} {u : ST} {s : State} {H : Heap} (hK : va_K (gD g) vwCl (gT g) s) (hP : va_P (gD g) vwCl (wX g u) H) : ∃ cellB : Cell, H[gX g 0]? = some cellB ∧ cellB.vm.isStatics = false ∧ s.vm.findClass RX0 = some cellB.cls := va_recv hK hP (ci := 0) (q0 := 0) rfl rfl
theorem rcM {g : GG} {u : ST} {v : VT} {s : State} {H : Heap} (hK : va_K (gD g) vwCl (gT g) s) (hP : va_P (gD g) vwCl (wM g u v) H) : ∃ cellB : Cell, H[gM g 0]? = some cellB ∧ cellB.vm.isStatics = false ∧ s.vm.findClass RX1 = some cellB.cls := va_recv hK hP (ci := 1) (q0 := 0) rfl rfl
/-- the cells of the class's object, of the reference's -/
def aX (g : GG) : Nat → Prop := fun q => ∃ k : Nat, k < 9 ∧ q = gX g k
def aM (g : GG) : Nat → Prop := fun q => ∃ k : Nat, k < 9 ∧ q = gM g k
def gOk (g : GG) : Prop := (∀ i j : Nat, i < 9 → j < 9 → gX g i = gX g j → i = j) ∧ ∀ i j : Nat, i < 9 → j < 9 → gM g i = gM g j → i = j
theorem wX_k {g : GG} {u : ST} {k : Nat} {q : Nat × va_E} (h : (wX g u)[k]? = some q) : k < 9 ∧ q.1 = gX g k := by
  match k, h with
  | 0, h | 1, h | 2, h | 3, h | 4, h | 5, h | 6, h | 7, h | 8, h => exact ⟨by decide, by cases h; rfl⟩
  | k + 9, h => exact absurd h (by simp [wX])
theorem wM_k {g : GG} {u : ST} {v : VT} {k : Nat} {q : Nat × va_E} (h : (wM g u v)[k]? = some q) : k < 9 ∧ q.1 = gM g k := by
  match k, h with
  | 0, h | 1, h | 2, h | 3, h | 4, h | 5, h | 6, h | 7, h | 8, h => exact ⟨by decide, by cases h; rfl⟩
  | k + 9, h => exact absurd h (by simp [wM])
theorem wX_D {g : GG} (hg : gOk g) (u : ST) : va_D (aX g) (wX g u) := ⟨fun i j p q hi hj hpq => by
  obtain ⟨h1, h2⟩ := wX_k hi
  obtain ⟨h3, h4⟩ := wX_k hj
  exact hg.1 i j h1 h3 (by rw [← h2, ← h4]; exact hpq), fun k q hk => ⟨k, wX_k hk⟩⟩
theorem wM_D {g : GG} (hg : gOk g) (u : ST) (v : VT) : va_D (aM g) (wM g u v) := ⟨fun i j p q hi hj hpq => by
  obtain ⟨h1, h2⟩ := wM_k hi
  obtain ⟨h3, h4⟩ := wM_k hj
  exact hg.2 i j h1 h3 (by rw [← h2, ← h4]; exact hpq), fun k q hk => ⟨k, wM_k hk⟩⟩
/-- what holds of a board all the time -/
def Inv (u : ST) : Prop := (0 ≤ zbl u ∧ zbl u ≤ 12) ∧ (0 ≤ zpg u ∧ zpg u ≤ 48) ∧ (0 ≤ zse u ∧ zse u ≤ 31) ∧ (0 ≤ zdr u ∧ zdr u ≤ 50) ∧ (∀ k, 0 ≤ k → k < zbl u → 32 ≤ zbu u k ∧ zbu u k ≤ 126) ∧ (∀ k, 0 ≤ zbu u k ∧ zbu u k ≤ 126) ∧
  (∀ k, 0 ≤ zpo u k ∧ zpo u k ≤ 31) ∧ (∀ k, 0 ≤ zsp u k ∧ zsp u k ≤ 200) ∧ (∀ k, -2 ≤ zle u k ∧ zle u k ≤ 2) ∧ (∀ k, zlo u k = 0 ∨ zlo u k = 1) ∧ (∀ k, zfx u k = 0 ∨ zfx u k = 1) ∧ zfx u 0 = 1 ∧ (∀ k, zpg u < k → zfx u k = 0) ∧
  (∀ k, -200000000 ≤ zfn u k ∧ zfn u k ≤ 200000000) ∧ ∀ k, -200000000 ≤ zfe u k ∧ zfe u k ≤ 200000000
theorem iv_bl {u : ST} (h : Inv u) : 0 ≤ zbl u ∧ zbl u ≤ 12 := h.1
theorem iv_pg {u : ST} (h : Inv u) : 0 ≤ zpg u ∧ zpg u ≤ 48 := h.2.1
theorem iv_se {u : ST} (h : Inv u) : 0 ≤ zse u ∧ zse u ≤ 31 := h.2.2.1
theorem iv_dr {u : ST} (h : Inv u) : 0 ≤ zdr u ∧ zdr u ≤ 50 := h.2.2.2.1
theorem iv_ch {u : ST} (h : Inv u) {k : Int} (h0 : 0 ≤ k) (h1 : k < zbl u) : 32 ≤ zbu u k ∧ zbu u k ≤ 126 := h.2.2.2.2.1 k h0 h1
theorem iv_bu {u : ST} (h : Inv u) (k : Int) : 0 ≤ zbu u k ∧ zbu u k ≤ 126 := h.2.2.2.2.2.1 k
theorem iv_po {u : ST} (h : Inv u) (k : Int) : 0 ≤ zpo u k ∧ zpo u k ≤ 31 := h.2.2.2.2.2.2.1 k
theorem iv_sp {u : ST} (h : Inv u) (k : Int) : 0 ≤ zsp u k ∧ zsp u k ≤ 200 := h.2.2.2.2.2.2.2.1 k
theorem iv_le {u : ST} (h : Inv u) (k : Int) : -2 ≤ zle u k ∧ zle u k ≤ 2 := h.2.2.2.2.2.2.2.2.1 k
theorem iv_lo {u : ST} (h : Inv u) (k : Int) : zlo u k = 0 ∨ zlo u k = 1 := h.2.2.2.2.2.2.2.2.2.1 k
theorem iv_fx {u : ST} (h : Inv u) (k : Int) : zfx u k = 0 ∨ zfx u k = 1 := h.2.2.2.2.2.2.2.2.2.2.1 k
theorem iv_f0 {u : ST} (h : Inv u) : zfx u 0 = 1 := h.2.2.2.2.2.2.2.2.2.2.2.1
theorem iv_fo {u : ST} (h : Inv u) {k : Int} (hk : zpg u < k) : zfx u k = 0 := h.2.2.2.2.2.2.2.2.2.2.2.2.1 k hk
theorem iv_fn {u : ST} (h : Inv u) (k : Int) : -200000000 ≤ zfn u k ∧ zfn u k ≤ 200000000 := h.2.2.2.2.2.2.2.2.2.2.2.2.2.1 k
theorem iv_fe {u : ST} (h : Inv u) (k : Int) : -200000000 ≤ zfe u k ∧ zfe u k ≤ 200000000 := h.2.2.2.2.2.2.2.2.2.2.2.2.2.2 k
theorem sn_rng (i : Int) : -10000 ≤ sn i ∧ sn i ≤ 10000 := by
  have h : ∀ k, k < 32 → -10000 ≤ snL.getD k 0 ∧ snL.getD k 0 ≤ 10000 := by decide +kernel
  unfold sn
  by_cases hk : i.toNat < 32
  · exact h _ hk
  · rw [show snL.getD i.toNat 0 = 0 from by rw [List.getD_eq_getElem?_getD, List.getElem?_eq_none (Nat.not_lt.mp hk)]; rfl]; exact ⟨by decide, by decide⟩
theorem nm_rng (i : Int) : 0 ≤ nm i ∧ nm i ≤ 126 := by
  have h : ∀ k, k < 160 → 0 ≤ nmL.getD k 0 ∧ nmL.getD k 0 ≤ 126 := by decide +kernel
  unfold nm
  by_cases hk : i.toNat < 160
  · exact h _ hk
  · rw [show nmL.getD i.toNat 0 = 0 from by rw [List.getD_eq_getElem?_getD, List.getElem?_eq_none (Nat.not_lt.mp hk)]; rfl]; exact ⟨by decide, by decide⟩
