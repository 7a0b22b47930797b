-- ===== end of PART A; then your names; then what follows =====
/-! THE CLAIM OUT OF ONE WALK OF THE LAW'S BODY. Your part is whole_start (and what it stands on); all else here is the same for every law, but numbers. -/
def R_law : String := "TraverseBoardLaw"
def lw_P (b : Addr) (xs : List Int32) (args : Array Value) (s : State) : Prop := args = #[.ref b] ∧ s.IntsAt b xs ∧ xs.length ≤ 2048 ∧ (Jvm.Cond.and given_1 narrow_1).before args s = true
def lw_Q (_ : Array Value) (s : State) (o : Outcome) (t : State) : Prop := o = .returned (some (.int 1)) ∧ Framed s o t [] 18 731
def lw_Z (below : List Frame) (a : Array Value) (s : State) : State → Prop := fun t => ∃ o, t.status = .running ∧ Ended t below o ∧ lw_Q a s o t
/-- the law's own end, with 1 on the stack, nothing written that was there before, its room as the claim has it -/
theorem lw_ret {p : Program} {l : Launch} {e : Env} {s : State} {m : MethodId} {below : List Frame} {meth : Method} {c : Code} {b : Nat} (hx : p.tables.exec = Jvm.exec) (hb : c.code = code) (hr : meth.sig.returnType = ret) (hlocks : meth.locks = false) {pc : Nat} {H : Heap} {ls : Array Slot} (hdg : decode code pc = .ok (.ireturn, 1)) : W p l e room_1 s m #[Value.ref b] below meth c H [] 18 731 (lw_Z below #[Value.ref b] s) (F0 m pc ls [.int 1]) := by
  intro T hT X
  obtain ⟨fs, hret, hrun, hended, hW, hframe⟩ := X.leave (v := some (.int 1)) (hlocks := hlocks) (fun h => by rw [hr] at h; cases h)
  have hmeth' : T.vm.method? m = some meth := X.method'
  refine ⟨T.setFrames fs, ?_, .returned (some (.int 1)), hrun, hended, rfl, ⟨_, rfl⟩, hW, hframe⟩
  jvm_step X.here [X.here.top, hx, hb, hdg, hmeth', hr, ret, narrow_b1]
  (try refine ⟨rfl, ?_⟩); (try refine ⟨rfl, ?_⟩)
  first | (intro acts; rw [hret _ acts rfl rfl rfl]) | rw [hret _ _ rfl rfl rfl]
  exact Steps.refl _
/-- what holds at the law's entry: the machine, the code, the tables' words (any of lw_tbl by 'hts w (by decide +kernel)'), the script of L ints xs at the cell b, what the Statement gives of the start (any of its parts by flat_of_before) -/
def lw_At (p : Program) (s : State) (m : MethodId) (meth : Method) (c : Code) (b L : Nat) (xs : Nat → Int32) : Prop :=
  p.tables.exec = Jvm.exec ∧ c.code = code ∧ meth.sig.returnType = ret ∧ c.maxLocals = 4 ∧ s.vm.findClass R_law = some m.cls ∧ (∀ w ∈ lw_tbl, w.before #[Value.ref b] s = true) ∧ va_X b L xs s s.heap ∧ b < s.heap.size ∧ meth.locks = false ∧ (Jvm.Cond.and given_1 narrow_1).before #[Value.ref b] s = true

/-! ===== THE LAW: its loop, a case a call, and its entry ===== -/
def LG (g : GG) (s : State) : Prop := gOk g ∧ (∀ k, k < 9 → s.heap.size ≤ gX g k) ∧ (∀ k, k < 9 → s.heap.size ≤ gM g k) ∧ (∀ i j, i < 9 → j < 9 → gX g i ≠ gM g j) ∧ va_K (gD g) vwCl (gT g) s ∧ ZS (fun q : Nat => s.heap.size ≤ q) g s s.heap
theorem keepM {g : GG} {u : ST} {v : VT} {s : State} {H H1 : Heap} (h : va_P (gD g) vwCl (wM g u v) H) (hx : ∀ i j, i < 9 → j < 9 → gX g i ≠ gM g j) (hk : ∀ q : Nat, q < H.size → ¬ aX g q → H1[q]? = H[q]?) : va_P (gD g) vwCl (wM g u v) H1 := h.kept (fun k q hq => hk q.1 ((h k q hq).lt) (fun ⟨i, hi, e⟩ => by
  obtain ⟨h1, h2⟩ := wM_k hq
  exact hx i k hi h1 (e.symm.trans h2)))
theorem keepX {g : GG} {u : ST} {s : State} {H H1 : Heap} (h : va_P (gD g) vwCl (wX g u) H) (hx : ∀ i j, i < 9 → j < 9 → gX g i ≠ gM g j) (hk : ∀ q : Nat, q < H.size → ¬ aM g q → H1[q]? = H[q]?) : va_P (gD g) vwCl (wX g u) H1 := h.kept (fun k q hq => hk q.1 ((h k q hq).lt) (fun ⟨i, hi, e⟩ => by
  obtain ⟨h1, h2⟩ := wX_k hq
  exact hx k i h1 hi (h2.symm.trans e)))
section ZL
variable {p : Program} {l : Launch} {e : Env} {R : Room} {s : State} {m : MethodId} {args : Array Value} {below : List Frame} {meth : Method} {c : Code} {H : Heap} {locs : List Loc} {cells slots : Nat} {Q : State → Prop}
variable {cc : ByteArray} {pc : Nat} {ls : Array Slot} {rest : List Value}
/-- two equal answers: the law goes on -/
theorem z_same (hx : p.tables.exec = Jvm.exec) (hb : c.code = cc) {x : Int64} {off : Int} {tgt : Nat} (hd1 : decode cc pc = .ok (.lcmp, 1)) (hdg : decode cc (pc + 1) = .ok (.ifCond .eq off, 3)) (ht : ((pc + 1 : Nat) : Int) + off = (tgt : Int)) (k : W p l e R s m args below meth c H locs cells slots Q (F0 m tgt ls rest)) : W p l e R s m args below meth c H locs cells slots Q (F0 m pc ls (.long x :: .long x :: rest)) :=
  W.lcmp hx hb hd1 (lv_if_eq hx hb hdg ht (fun _ => k) (fun h => absurd ((lg_cmp_eq x x).mpr rfl) h))
end ZL
set_option maxHeartbeats 4000000 in
set_option maxRecDepth 100000 in
theorem lc_0 {p : Program} {l : Launch} {e : Env} {s : State} {m : MethodId} {below : List Frame} {meth : Method} {c : Code} {b L : Nat} {xs : Nat → Int32} {g : GG} (hL : L ≤ 2048) (C0 : lw_At p s m meth c b L xs) (G0 : LG g s) {i : Int} (hi : 0 ≤ i ∧ i + 4 ≤ L) {u : ST} {v : VT} {H : Heap} {locs : List Loc} {ls : Array Slot} (hI : Inv u) (hPX : va_P (gD g) vwCl (wX g u) H) (hPM : va_P (gD g) vwCl (wM g u v) H) (hS : va_S (fun q : Nat => s.heap.size ≤ q) s.heap H locs) (hl : lv_has ls 4 [(0, .ref b), (1, .ref (gX g 0)), (2, .ref (gM g 0)), (3, .int (iI i))])
    (back : ∀ (u2 : ST) (v2 : VT) (H2 : Heap) (locs2 : List Loc) (ls2 : Array Slot), Inv u2 → va_P (gD g) vwCl (wX g u2) H2 → va_P (gD g) vwCl (wM g u2 v2) H2 → va_S (fun q : Nat => s.heap.size ≤ q) s.heap H2 locs2 → lv_has ls2 4 [(0, .ref b), (1, .ref (gX g 0)), (2, .ref (gM g 0)), (3, .int (iI (i + 4)))] → W p l e room_1 s m #[Value.ref b] below meth c H2 locs2 18 731 (lw_Z below #[Value.ref b] s) (F0 m 18 ls2 [])) : W p l e room_1 s m #[Value.ref b] below meth c H locs 18 731 (lw_Z below #[Value.ref b] s) (F0 m 144 ls []) := by
  obtain ⟨hx, hb, hr, hml, hown, hts, hX, hbl, hlocks, hgv⟩ := C0
  have hts := fun w h => hts w (wsL_law_in w h)
  have hown : s.vm.findClass RL = some m.cls := hown
  obtain ⟨hg, hAX, hAM, hXM, hK, hZ⟩ := G0
  have hbA : ¬ (fun q : Nat => s.heap.size ≤ q) b := Nat.not_le.mpr hbl
  have hAx : ∀ q, aX g q → s.heap.size ≤ q := fun q ⟨k, hk, e⟩ => by rw [e]; exact hAX k hk
  have hAm : ∀ q, aM g q → s.heap.size ≤ q := fun q ⟨k, hk, e⟩ => by rw [e]; exact hAM k hk
  have hPXs : PX g u s H := ⟨hPX, hK, (hZ.kept hS.2.1).narrow (fun _ h => False.elim h)⟩
  obtain ⟨a1, ha1, ea1⟩ := iI_ex (xs (iI (i + 1)).toNatClampNeg)
  refine lv_aload_n hx hb dL_law_144 rfl (lv_at hl 1 rfl) ?_
  refine lv_aload_n hx hb dL_law_145 rfl (lv_at hl 0 rfl) ?_
  refine lv_iload_n hx hb dL_law_146 rfl (lv_at hl 3 rfl) ?_
  refine z_iconst hx hb dL_law_147 ?_
  refine z_iadd hx hb dL_law_148 ?_
  refine va_sld hx hb hX hbl hbA hS (iI_in (by omega) (by omega) (by omega)) dL_law_149 ?_
  rw [ea1]
  refine zVw_l (As := [.int (iI a1)]) (rest := []) ⟨hx, hb, hml, hown, hts⟩ (PY g u) (PY_blind g u) (PY_mv hPX hK) (rcX hK hPX) (c_X0_append l g u hg a1 hI ha1) (cwV 1 hts gL_law_X0_append rfl rfl rfl (by decide +kernel) ⟨Nat.le_of_ble_eq_true rfl, Nat.le_of_ble_eq_true rfl⟩) rfl hl.1 rfl (Nat.le_of_ble_eq_true rfl) dL_law_150 ⟨Nat.le_of_ble_eq_true rfl, Nat.le_of_ble_eq_true rfl⟩ hS hAx (fun H1 locs hPX hH1 hH2 hS => ?_)
  have hPM := keepM (s := s) hPM hXM hH2
  clear hPXs hH1 hH2
  refine lv_aload_n hx hb dL_law_153 rfl (lv_at hl 2 rfl) ?_
  refine lv_aload_n hx hb dL_law_154 rfl (lv_at hl 0 rfl) ?_
  refine lv_iload_n hx hb dL_law_155 rfl (lv_at hl 3 rfl) ?_
  refine z_iconst hx hb dL_law_156 ?_
  refine z_iadd hx hb dL_law_157 ?_
  refine va_sld hx hb hX hbl hbA hS (iI_in (by omega) (by omega) (by omega)) dL_law_158 ?_
  rw [ea1]
  refine zVw_l (As := [.int (iI a1)]) (rest := [.long (jI (apR u a1))]) ⟨hx, hb, hml, hown, hts⟩ (PM g u v) (PM_blind g u v) (PM_mv hPM hK) (rcM hK hPM) (c_X1_append l g u v hg a1 hI ha1) (cwV 1 hts gL_law_X1_append rfl rfl rfl (by decide +kernel) ⟨Nat.le_of_ble_eq_true rfl, Nat.le_of_ble_eq_true rfl⟩) rfl hl.1 rfl (Nat.le_of_ble_eq_true rfl) dL_law_159 ⟨Nat.le_of_ble_eq_true rfl, Nat.le_of_ble_eq_true rfl⟩ hS hAm (fun H1 locs hPM hH1 hH2 hS => ?_)
  have hPX := keepX (s := s) hPX hXM hH2
  refine z_same (tgt := 750) hx hb dL_law_162 dL_law_163 (by decide) ?_
  refine z_iinc (k := 3) (lv' := [(3, .int (iI (i + 4))), (0, .ref b), (1, .ref (gX g 0)), (2, .ref (gM g 0))]) hx hb dL_law_750 hl rfl (by decide) rfl (fun ls hl => ?_)
  refine lv_goto (tgt := 18) hx hb dL_law_753 (by decide) ?_
  exact back _ _ _ _ ls (inv_ap hI a1) hPX hPM hS (lv_sub hl [1, 2, 3, 0] rfl)
set_option maxHeartbeats 4000000 in
set_option maxRecDepth 100000 in
theorem lc_1 {p : Program} {l : Launch} {e : Env} {s : State} {m : MethodId} {below : List Frame} {meth : Method} {c : Code} {b L : Nat} {xs : Nat → Int32} {g : GG} (hL : L ≤ 2048) (C0 : lw_At p s m meth c b L xs) (G0 : LG g s) {i : Int} (hi : 0 ≤ i ∧ i + 4 ≤ L) {u : ST} {v : VT} {H : Heap} {locs : List Loc} {ls : Array Slot} (hI : Inv u) (hPX : va_P (gD g) vwCl (wX g u) H) (hPM : va_P (gD g) vwCl (wM g u v) H) (hS : va_S (fun q : Nat => s.heap.size ≤ q) s.heap H locs) (hl : lv_has ls 4 [(0, .ref b), (1, .ref (gX g 0)), (2, .ref (gM g 0)), (3, .int (iI i))])
    (back : ∀ (u2 : ST) (v2 : VT) (H2 : Heap) (locs2 : List Loc) (ls2 : Array Slot), Inv u2 → va_P (gD g) vwCl (wX g u2) H2 → va_P (gD g) vwCl (wM g u2 v2) H2 → va_S (fun q : Nat => s.heap.size ≤ q) s.heap H2 locs2 → lv_has ls2 4 [(0, .ref b), (1, .ref (gX g 0)), (2, .ref (gM g 0)), (3, .int (iI (i + 4)))] → W p l e room_1 s m #[Value.ref b] below meth c H2 locs2 18 731 (lw_Z below #[Value.ref b] s) (F0 m 18 ls2 [])) : W p l e room_1 s m #[Value.ref b] below meth c H locs 18 731 (lw_Z below #[Value.ref b] s) (F0 m 168 ls []) := by
  obtain ⟨hx, hb, hr, hml, hown, hts, hX, hbl, hlocks, hgv⟩ := C0
  have hts := fun w h => hts w (wsL_law_in w h)
  have hown : s.vm.findClass RL = some m.cls := hown
  obtain ⟨hg, hAX, hAM, hXM, hK, hZ⟩ := G0
  have hbA : ¬ (fun q : Nat => s.heap.size ≤ q) b := Nat.not_le.mpr hbl
  have hAx : ∀ q, aX g q → s.heap.size ≤ q := fun q ⟨k, hk, e⟩ => by rw [e]; exact hAX k hk
  have hAm : ∀ q, aM g q → s.heap.size ≤ q := fun q ⟨k, hk, e⟩ => by rw [e]; exact hAM k hk
  have hPXs : PX g u s H := ⟨hPX, hK, (hZ.kept hS.2.1).narrow (fun _ h => False.elim h)⟩
  refine lv_aload_n hx hb dL_law_168 rfl (lv_at hl 1 rfl) ?_
  refine zVw_l (As := []) (rest := []) ⟨hx, hb, hml, hown, hts⟩ (PY g u) (PY_blind g u) (PY_mv hPX hK) (rcX hK hPX) (c_X0_clearBuffer l g u hg hI) (cwV 0 hts gL_law_X0_clearBuffer rfl rfl rfl (by decide +kernel) ⟨Nat.le_of_ble_eq_true rfl, Nat.le_of_ble_eq_true rfl⟩) rfl hl.1 rfl (Nat.le_of_ble_eq_true rfl) dL_law_169 ⟨Nat.le_of_ble_eq_true rfl, Nat.le_of_ble_eq_true rfl⟩ hS hAx (fun H1 locs hPX hH1 hH2 hS => ?_)
  have hPM := keepM (s := s) hPM hXM hH2
  clear hPXs hH1 hH2
  refine lv_aload_n hx hb dL_law_172 rfl (lv_at hl 2 rfl) ?_
  refine zVw_l (As := []) (rest := [.long (jI (zbl u))]) ⟨hx, hb, hml, hown, hts⟩ (PM g u v) (PM_blind g u v) (PM_mv hPM hK) (rcM hK hPM) (c_X1_clearBuffer l g u v hg hI) (cwV 0 hts gL_law_X1_clearBuffer rfl rfl rfl (by decide +kernel) ⟨Nat.le_of_ble_eq_true rfl, Nat.le_of_ble_eq_true rfl⟩) rfl hl.1 rfl (Nat.le_of_ble_eq_true rfl) dL_law_173 ⟨Nat.le_of_ble_eq_true rfl, Nat.le_of_ble_eq_true rfl⟩ hS hAm (fun H1 locs hPM hH1 hH2 hS => ?_)
  have hPX := keepX (s := s) hPX hXM hH2
  refine z_same (tgt := 750) hx hb dL_law_176 dL_law_177 (by decide) ?_
  refine z_iinc (k := 3) (lv' := [(3, .int (iI (i + 4))), (0, .ref b), (1, .ref (gX g 0)), (2, .ref (gM g 0))]) hx hb dL_law_750 hl rfl (by decide) rfl (fun ls hl => ?_)
  refine lv_goto (tgt := 18) hx hb dL_law_753 (by decide) ?_
  exact back _ _ _ _ ls (inv_cl hI) hPX hPM hS (lv_sub hl [1, 2, 3, 0] rfl)
set_option maxHeartbeats 4000000 in
set_option maxRecDepth 100000 in
theorem lc_2 {p : Program} {l : Launch} {e : Env} {s : State} {m : MethodId} {below : List Frame} {meth : Method} {c : Code} {b L : Nat} {xs : Nat → Int32} {g : GG} (hL : L ≤ 2048) (C0 : lw_At p s m meth c b L xs) (G0 : LG g s) {i : Int} (hi : 0 ≤ i ∧ i + 4 ≤ L) {u : ST} {v : VT} {H : Heap} {locs : List Loc} {ls : Array Slot} (hI : Inv u) (hPX : va_P (gD g) vwCl (wX g u) H) (hPM : va_P (gD g) vwCl (wM g u v) H) (hS : va_S (fun q : Nat => s.heap.size ≤ q) s.heap H locs) (hl : lv_has ls 4 [(0, .ref b), (1, .ref (gX g 0)), (2, .ref (gM g 0)), (3, .int (iI i))])
    (back : ∀ (u2 : ST) (v2 : VT) (H2 : Heap) (locs2 : List Loc) (ls2 : Array Slot), Inv u2 → va_P (gD g) vwCl (wX g u2) H2 → va_P (gD g) vwCl (wM g u2 v2) H2 → va_S (fun q : Nat => s.heap.size ≤ q) s.heap H2 locs2 → lv_has ls2 4 [(0, .ref b), (1, .ref (gX g 0)), (2, .ref (gM g 0)), (3, .int (iI (i + 4)))] → W p l e room_1 s m #[Value.ref b] below meth c H2 locs2 18 731 (lw_Z below #[Value.ref b] s) (F0 m 18 ls2 [])) : W p l e room_1 s m #[Value.ref b] below meth c H locs 18 731 (lw_Z below #[Value.ref b] s) (F0 m 182 ls []) := by
  obtain ⟨hx, hb, hr, hml, hown, hts, hX, hbl, hlocks, hgv⟩ := C0
  have hts := fun w h => hts w (wsL_law_in w h)
  have hown : s.vm.findClass RL = some m.cls := hown
  obtain ⟨hg, hAX, hAM, hXM, hK, hZ⟩ := G0
  have hbA : ¬ (fun q : Nat => s.heap.size ≤ q) b := Nat.not_le.mpr hbl
  have hAx : ∀ q, aX g q → s.heap.size ≤ q := fun q ⟨k, hk, e⟩ => by rw [e]; exact hAX k hk
  have hAm : ∀ q, aM g q → s.heap.size ≤ q := fun q ⟨k, hk, e⟩ => by rw [e]; exact hAM k hk
  have hPXs : PX g u s H := ⟨hPX, hK, (hZ.kept hS.2.1).narrow (fun _ h => False.elim h)⟩
  refine lv_aload_n hx hb dL_law_182 rfl (lv_at hl 1 rfl) ?_
  refine zV_l (As := []) (rest := []) ⟨hx, hb, hml, hown, hts⟩ (PX g u) (PX_blind g u) (PX_mv hPXs) (rcX hK hPX) (c_X0_errorPosition l g u hI) (cwV 0 hts gL_law_X0_errorPosition rfl rfl rfl (by decide +kernel) ⟨Nat.le_of_ble_eq_true rfl, Nat.le_of_ble_eq_true rfl⟩) rfl hl.1 rfl (Nat.le_of_ble_eq_true rfl) dL_law_183 ⟨Nat.le_of_ble_eq_true rfl, Nat.le_of_ble_eq_true rfl⟩ ?_
  refine lv_aload_n hx hb dL_law_186 rfl (lv_at hl 2 rfl) ?_
  refine zVw_l (As := []) (rest := [.long (jI (ep u))]) ⟨hx, hb, hml, hown, hts⟩ (PM g u v) (PM_blind g u v) (PM_mv hPM hK) (rcM hK hPM) (c_X1_errorPosition l g u v hg hI) (cwV 0 hts gL_law_X1_errorPosition rfl rfl rfl (by decide +kernel) ⟨Nat.le_of_ble_eq_true rfl, Nat.le_of_ble_eq_true rfl⟩) rfl hl.1 rfl (Nat.le_of_ble_eq_true rfl) dL_law_187 ⟨Nat.le_of_ble_eq_true rfl, Nat.le_of_ble_eq_true rfl⟩ hS hAm (fun H1 locs hPM hH1 hH2 hS => ?_)
  have hPX := keepX (s := s) hPX hXM hH2
  refine z_same (tgt := 750) hx hb dL_law_190 dL_law_191 (by decide) ?_
  refine z_iinc (k := 3) (lv' := [(3, .int (iI (i + 4))), (0, .ref b), (1, .ref (gX g 0)), (2, .ref (gM g 0))]) hx hb dL_law_750 hl rfl (by decide) rfl (fun ls hl => ?_)
  refine lv_goto (tgt := 18) hx hb dL_law_753 (by decide) ?_
  exact back _ _ _ _ ls (hI) hPX hPM hS (lv_sub hl [1, 2, 3, 0] rfl)
set_option maxHeartbeats 4000000 in
set_option maxRecDepth 100000 in
theorem lc_3 {p : Program} {l : Launch} {e : Env} {s : State} {m : MethodId} {below : List Frame} {meth : Method} {c : Code} {b L : Nat} {xs : Nat → Int32} {g : GG} (hL : L ≤ 2048) (C0 : lw_At p s m meth c b L xs) (G0 : LG g s) {i : Int} (hi : 0 ≤ i ∧ i + 4 ≤ L) {u : ST} {v : VT} {H : Heap} {locs : List Loc} {ls : Array Slot} (hI : Inv u) (hPX : va_P (gD g) vwCl (wX g u) H) (hPM : va_P (gD g) vwCl (wM g u v) H) (hS : va_S (fun q : Nat => s.heap.size ≤ q) s.heap H locs) (hl : lv_has ls 4 [(0, .ref b), (1, .ref (gX g 0)), (2, .ref (gM g 0)), (3, .int (iI i))])
    (back : ∀ (u2 : ST) (v2 : VT) (H2 : Heap) (locs2 : List Loc) (ls2 : Array Slot), Inv u2 → va_P (gD g) vwCl (wX g u2) H2 → va_P (gD g) vwCl (wM g u2 v2) H2 → va_S (fun q : Nat => s.heap.size ≤ q) s.heap H2 locs2 → lv_has ls2 4 [(0, .ref b), (1, .ref (gX g 0)), (2, .ref (gM g 0)), (3, .int (iI (i + 4)))] → W p l e room_1 s m #[Value.ref b] below meth c H2 locs2 18 731 (lw_Z below #[Value.ref b] s) (F0 m 18 ls2 [])) : W p l e room_1 s m #[Value.ref b] below meth c H locs 18 731 (lw_Z below #[Value.ref b] s) (F0 m 196 ls []) := by
  obtain ⟨hx, hb, hr, hml, hown, hts, hX, hbl, hlocks, hgv⟩ := C0
  have hts := fun w h => hts w (wsL_law_in w h)
  have hown : s.vm.findClass RL = some m.cls := hown
  obtain ⟨hg, hAX, hAM, hXM, hK, hZ⟩ := G0
  have hbA : ¬ (fun q : Nat => s.heap.size ≤ q) b := Nat.not_le.mpr hbl
  have hAx : ∀ q, aX g q → s.heap.size ≤ q := fun q ⟨k, hk, e⟩ => by rw [e]; exact hAX k hk
  have hAm : ∀ q, aM g q → s.heap.size ≤ q := fun q ⟨k, hk, e⟩ => by rw [e]; exact hAM k hk
  have hPXs : PX g u s H := ⟨hPX, hK, (hZ.kept hS.2.1).narrow (fun _ h => False.elim h)⟩
  refine lv_aload_n hx hb dL_law_196 rfl (lv_at hl 1 rfl) ?_
  refine zVw_l (As := []) (rest := []) ⟨hx, hb, hml, hown, hts⟩ (PX g u) (PX_blind g u) (PX_mv hPXs) (rcX hK hPX) (c_X0_addFromBuffer l g u hg hI) (cwV 0 hts gL_law_X0_addFromBuffer rfl rfl rfl (by decide +kernel) ⟨Nat.le_of_ble_eq_true rfl, Nat.le_of_ble_eq_true rfl⟩) rfl hl.1 rfl (Nat.le_of_ble_eq_true rfl) dL_law_197 ⟨Nat.le_of_ble_eq_true rfl, Nat.le_of_ble_eq_true rfl⟩ hS hAx (fun H1 locs hPX hH1 hH2 hS => ?_)
  have hPM := keepM (s := s) hPM hXM hH2
  clear hPXs hH1 hH2
  refine lv_aload_n hx hb dL_law_200 rfl (lv_at hl 2 rfl) ?_
  refine zVw_l (As := []) (rest := [.long (jI (afR u))]) ⟨hx, hb, hml, hown, hts⟩ (PM g u v) (PM_blind g u v) (PM_mv hPM hK) (rcM hK hPM) (c_X1_addFromBuffer l g u v hg hI) (cwV 0 hts gL_law_X1_addFromBuffer rfl rfl rfl (by decide +kernel) ⟨Nat.le_of_ble_eq_true rfl, Nat.le_of_ble_eq_true rfl⟩) rfl hl.1 rfl (Nat.le_of_ble_eq_true rfl) dL_law_201 ⟨Nat.le_of_ble_eq_true rfl, Nat.le_of_ble_eq_true rfl⟩ hS hAm (fun H1 locs hPM hH1 hH2 hS => ?_)
  have hPX := keepX (s := s) hPX hXM hH2
  refine z_same (tgt := 750) hx hb dL_law_204 dL_law_205 (by decide) ?_
  refine z_iinc (k := 3) (lv' := [(3, .int (iI (i + 4))), (0, .ref b), (1, .ref (gX g 0)), (2, .ref (gM g 0))]) hx hb dL_law_750 hl rfl (by decide) rfl (fun ls hl => ?_)
  refine lv_goto (tgt := 18) hx hb dL_law_753 (by decide) ?_
  exact back _ _ _ _ ls (inv_af hI) hPX hPM hS (lv_sub hl [1, 2, 3, 0] rfl)
set_option maxHeartbeats 4000000 in
set_option maxRecDepth 100000 in
theorem lc_4 {p : Program} {l : Launch} {e : Env} {s : State} {m : MethodId} {below : List Frame} {meth : Method} {c : Code} {b L : Nat} {xs : Nat → Int32} {g : GG} (hL : L ≤ 2048) (C0 : lw_At p s m meth c b L xs) (G0 : LG g s) {i : Int} (hi : 0 ≤ i ∧ i + 4 ≤ L) {u : ST} {v : VT} {H : Heap} {locs : List Loc} {ls : Array Slot} (hI : Inv u) (hPX : va_P (gD g) vwCl (wX g u) H) (hPM : va_P (gD g) vwCl (wM g u v) H) (hS : va_S (fun q : Nat => s.heap.size ≤ q) s.heap H locs) (hl : lv_has ls 4 [(0, .ref b), (1, .ref (gX g 0)), (2, .ref (gM g 0)), (3, .int (iI i))])
    (back : ∀ (u2 : ST) (v2 : VT) (H2 : Heap) (locs2 : List Loc) (ls2 : Array Slot), Inv u2 → va_P (gD g) vwCl (wX g u2) H2 → va_P (gD g) vwCl (wM g u2 v2) H2 → va_S (fun q : Nat => s.heap.size ≤ q) s.heap H2 locs2 → lv_has ls2 4 [(0, .ref b), (1, .ref (gX g 0)), (2, .ref (gM g 0)), (3, .int (iI (i + 4)))] → W p l e room_1 s m #[Value.ref b] below meth c H2 locs2 18 731 (lw_Z below #[Value.ref b] s) (F0 m 18 ls2 [])) : W p l e room_1 s m #[Value.ref b] below meth c H locs 18 731 (lw_Z below #[Value.ref b] s) (F0 m 210 ls []) := by
  obtain ⟨hx, hb, hr, hml, hown, hts, hX, hbl, hlocks, hgv⟩ := C0
  have hts := fun w h => hts w (wsL_law_in w h)
  have hown : s.vm.findClass RL = some m.cls := hown
  obtain ⟨hg, hAX, hAM, hXM, hK, hZ⟩ := G0
  have hbA : ¬ (fun q : Nat => s.heap.size ≤ q) b := Nat.not_le.mpr hbl
  have hAx : ∀ q, aX g q → s.heap.size ≤ q := fun q ⟨k, hk, e⟩ => by rw [e]; exact hAX k hk
  have hAm : ∀ q, aM g q → s.heap.size ≤ q := fun q ⟨k, hk, e⟩ => by rw [e]; exact hAM k hk
  have hPXs : PX g u s H := ⟨hPX, hK, (hZ.kept hS.2.1).narrow (fun _ h => False.elim h)⟩
  obtain ⟨a1, ha1, ea1⟩ := iI_ex (xs (iI (i + 1)).toNatClampNeg)
  obtain ⟨a2, ha2, ea2⟩ := iI_ex (xs (iI (i + 2)).toNatClampNeg)
  refine lv_aload_n hx hb dL_law_210 rfl (lv_at hl 1 rfl) ?_
  refine lv_aload_n hx hb dL_law_211 rfl (lv_at hl 0 rfl) ?_
  refine lv_iload_n hx hb dL_law_212 rfl (lv_at hl 3 rfl) ?_
  refine z_iconst hx hb dL_law_213 ?_
  refine z_iadd hx hb dL_law_214 ?_
  refine va_sld hx hb hX hbl hbA hS (iI_in (by omega) (by omega) (by omega)) dL_law_215 ?_
  rw [ea1]
  refine lv_aload_n hx hb dL_law_216 rfl (lv_at hl 0 rfl) ?_
  refine lv_iload_n hx hb dL_law_217 rfl (lv_at hl 3 rfl) ?_
  refine z_iconst hx hb dL_law_218 ?_
  refine z_iadd hx hb dL_law_219 ?_
  refine va_sld hx hb hX hbl hbA hS (iI_in (by omega) (by omega) (by omega)) dL_law_220 ?_
  rw [ea2]
  refine zVw_l (As := [.int (iI a1), .int (iI a2)]) (rest := []) ⟨hx, hb, hml, hown, hts⟩ (PY g u) (PY_blind g u) (PY_mv hPX hK) (rcX hK hPX) (c_X0_add l g u hg a1 a2 hI ha1 ha2) (cwV 2 hts gL_law_X0_add rfl rfl rfl (by decide +kernel) ⟨Nat.le_of_ble_eq_true rfl, Nat.le_of_ble_eq_true rfl⟩) rfl hl.1 rfl (Nat.le_of_ble_eq_true rfl) dL_law_221 ⟨Nat.le_of_ble_eq_true rfl, Nat.le_of_ble_eq_true rfl⟩ hS hAx (fun H1 locs hPX hH1 hH2 hS => ?_)
  have hPM := keepM (s := s) hPM hXM hH2
  clear hPXs hH1 hH2
  refine lv_aload_n hx hb dL_law_224 rfl (lv_at hl 2 rfl) ?_
  refine lv_aload_n hx hb dL_law_225 rfl (lv_at hl 0 rfl) ?_
  refine lv_iload_n hx hb dL_law_226 rfl (lv_at hl 3 rfl) ?_
  refine z_iconst hx hb dL_law_227 ?_
  refine z_iadd hx hb dL_law_228 ?_
  refine va_sld hx hb hX hbl hbA hS (iI_in (by omega) (by omega) (by omega)) dL_law_229 ?_
  rw [ea1]
  refine lv_aload_n hx hb dL_law_230 rfl (lv_at hl 0 rfl) ?_
  refine lv_iload_n hx hb dL_law_231 rfl (lv_at hl 3 rfl) ?_
  refine z_iconst hx hb dL_law_232 ?_
  refine z_iadd hx hb dL_law_233 ?_
  refine va_sld hx hb hX hbl hbA hS (iI_in (by omega) (by omega) (by omega)) dL_law_234 ?_
  rw [ea2]
  refine zVw_l (As := [.int (iI a1), .int (iI a2)]) (rest := [.long (jI (adR u a1 a2))]) ⟨hx, hb, hml, hown, hts⟩ (PM g u v) (PM_blind g u v) (PM_mv hPM hK) (rcM hK hPM) (c_X1_add l g u v hg a1 a2 hI ha1 ha2) (cwV 2 hts gL_law_X1_add rfl rfl rfl (by decide +kernel) ⟨Nat.le_of_ble_eq_true rfl, Nat.le_of_ble_eq_true rfl⟩) rfl hl.1 rfl (Nat.le_of_ble_eq_true rfl) dL_law_235 ⟨Nat.le_of_ble_eq_true rfl, Nat.le_of_ble_eq_true rfl⟩ hS hAm (fun H1 locs hPM hH1 hH2 hS => ?_)
  have hPX := keepX (s := s) hPX hXM hH2
  refine z_same (tgt := 750) hx hb dL_law_238 dL_law_239 (by decide) ?_
  refine z_iinc (k := 3) (lv' := [(3, .int (iI (i + 4))), (0, .ref b), (1, .ref (gX g 0)), (2, .ref (gM g 0))]) hx hb dL_law_750 hl rfl (by decide) rfl (fun ls hl => ?_)
  refine lv_goto (tgt := 18) hx hb dL_law_753 (by decide) ?_
  exact back _ _ _ _ ls (inv_ad hI a1 a2) hPX hPM hS (lv_sub hl [1, 2, 3, 0] rfl)
set_option maxHeartbeats 4000000 in
set_option maxRecDepth 100000 in
theorem lc_5 {p : Program} {l : Launch} {e : Env} {s : State} {m : MethodId} {below : List Frame} {meth : Method} {c : Code} {b L : Nat} {xs : Nat → Int32} {g : GG} (hL : L ≤ 2048) (C0 : lw_At p s m meth c b L xs) (G0 : LG g s) {i : Int} (hi : 0 ≤ i ∧ i + 4 ≤ L) {u : ST} {v : VT} {H : Heap} {locs : List Loc} {ls : Array Slot} (hI : Inv u) (hPX : va_P (gD g) vwCl (wX g u) H) (hPM : va_P (gD g) vwCl (wM g u v) H) (hS : va_S (fun q : Nat => s.heap.size ≤ q) s.heap H locs) (hl : lv_has ls 4 [(0, .ref b), (1, .ref (gX g 0)), (2, .ref (gM g 0)), (3, .int (iI i))])
    (back : ∀ (u2 : ST) (v2 : VT) (H2 : Heap) (locs2 : List Loc) (ls2 : Array Slot), Inv u2 → va_P (gD g) vwCl (wX g u2) H2 → va_P (gD g) vwCl (wM g u2 v2) H2 → va_S (fun q : Nat => s.heap.size ≤ q) s.heap H2 locs2 → lv_has ls2 4 [(0, .ref b), (1, .ref (gX g 0)), (2, .ref (gM g 0)), (3, .int (iI (i + 4)))] → W p l e room_1 s m #[Value.ref b] below meth c H2 locs2 18 731 (lw_Z below #[Value.ref b] s) (F0 m 18 ls2 [])) : W p l e room_1 s m #[Value.ref b] below meth c H locs 18 731 (lw_Z below #[Value.ref b] s) (F0 m 244 ls []) := by
  obtain ⟨hx, hb, hr, hml, hown, hts, hX, hbl, hlocks, hgv⟩ := C0
  have hts := fun w h => hts w (wsL_law_in w h)
  have hown : s.vm.findClass RL = some m.cls := hown
  obtain ⟨hg, hAX, hAM, hXM, hK, hZ⟩ := G0
  have hbA : ¬ (fun q : Nat => s.heap.size ≤ q) b := Nat.not_le.mpr hbl
  have hAx : ∀ q, aX g q → s.heap.size ≤ q := fun q ⟨k, hk, e⟩ => by rw [e]; exact hAX k hk
  have hAm : ∀ q, aM g q → s.heap.size ≤ q := fun q ⟨k, hk, e⟩ => by rw [e]; exact hAM k hk
  have hPXs : PX g u s H := ⟨hPX, hK, (hZ.kept hS.2.1).narrow (fun _ h => False.elim h)⟩
  obtain ⟨a1, ha1, ea1⟩ := iI_ex (xs (iI (i + 1)).toNatClampNeg)
  obtain ⟨a2, ha2, ea2⟩ := iI_ex (xs (iI (i + 2)).toNatClampNeg)
  obtain ⟨a3, ha3, ea3⟩ := iI_ex (xs (iI (i + 3)).toNatClampNeg)
  refine lv_aload_n hx hb dL_law_244 rfl (lv_at hl 1 rfl) ?_
  refine lv_aload_n hx hb dL_law_245 rfl (lv_at hl 0 rfl) ?_
  refine lv_iload_n hx hb dL_law_246 rfl (lv_at hl 3 rfl) ?_
  refine z_iconst hx hb dL_law_247 ?_
  refine z_iadd hx hb dL_law_248 ?_
  refine va_sld hx hb hX hbl hbA hS (iI_in (by omega) (by omega) (by omega)) dL_law_249 ?_
  rw [ea1]
  refine lv_aload_n hx hb dL_law_250 rfl (lv_at hl 0 rfl) ?_
  refine lv_iload_n hx hb dL_law_251 rfl (lv_at hl 3 rfl) ?_
  refine z_iconst hx hb dL_law_252 ?_
  refine z_iadd hx hb dL_law_253 ?_
  refine va_sld hx hb hX hbl hbA hS (iI_in (by omega) (by omega) (by omega)) dL_law_254 ?_
  rw [ea2]
  refine lv_aload_n hx hb dL_law_255 rfl (lv_at hl 0 rfl) ?_
  refine lv_iload_n hx hb dL_law_256 rfl (lv_at hl 3 rfl) ?_
  refine z_iconst hx hb dL_law_257 ?_
  refine z_iadd hx hb dL_law_258 ?_
  refine va_sld hx hb hX hbl hbA hS (iI_in (by omega) (by omega) (by omega)) dL_law_259 ?_
  rw [ea3]
  refine zVw_l (As := [.int (iI a1), .int (iI a2), .int (iI a3)]) (rest := []) ⟨hx, hb, hml, hown, hts⟩ (PY g u) (PY_blind g u) (PY_mv hPX hK) (rcX hK hPX) (c_X0_replace l g u hg a1 a2 a3 hI ha1 ha2 ha3) (cwV 3 hts gL_law_X0_replace rfl rfl rfl (by decide +kernel) ⟨Nat.le_of_ble_eq_true rfl, Nat.le_of_ble_eq_true rfl⟩) rfl hl.1 rfl (Nat.le_of_ble_eq_true rfl) dL_law_260 ⟨Nat.le_of_ble_eq_true rfl, Nat.le_of_ble_eq_true rfl⟩ hS hAx (fun H1 locs hPX hH1 hH2 hS => ?_)
  have hPM := keepM (s := s) hPM hXM hH2
  clear hPXs hH1 hH2
  refine lv_aload_n hx hb dL_law_263 rfl (lv_at hl 2 rfl) ?_
  refine lv_aload_n hx hb dL_law_264 rfl (lv_at hl 0 rfl) ?_
  refine lv_iload_n hx hb dL_law_265 rfl (lv_at hl 3 rfl) ?_
  refine z_iconst hx hb dL_law_266 ?_
  refine z_iadd hx hb dL_law_267 ?_
  refine va_sld hx hb hX hbl hbA hS (iI_in (by omega) (by omega) (by omega)) dL_law_268 ?_
  rw [ea1]
  refine lv_aload_n hx hb dL_law_269 rfl (lv_at hl 0 rfl) ?_
  refine lv_iload_n hx hb dL_law_270 rfl (lv_at hl 3 rfl) ?_
  refine z_iconst hx hb dL_law_271 ?_
  refine z_iadd hx hb dL_law_272 ?_
  refine va_sld hx hb hX hbl hbA hS (iI_in (by omega) (by omega) (by omega)) dL_law_273 ?_
  rw [ea2]
  refine lv_aload_n hx hb dL_law_274 rfl (lv_at hl 0 rfl) ?_
  refine lv_iload_n hx hb dL_law_275 rfl (lv_at hl 3 rfl) ?_
  refine z_iconst hx hb dL_law_276 ?_
  refine z_iadd hx hb dL_law_277 ?_
  refine va_sld hx hb hX hbl hbA hS (iI_in (by omega) (by omega) (by omega)) dL_law_278 ?_
  rw [ea3]
  refine zVw_l (As := [.int (iI a1), .int (iI a2), .int (iI a3)]) (rest := [.long (jI (reR u a1 a2 a3))]) ⟨hx, hb, hml, hown, hts⟩ (PM g u v) (PM_blind g u v) (PM_mv hPM hK) (rcM hK hPM) (c_X1_replace l g u v hg a1 a2 a3 hI ha1 ha2 ha3) (cwV 3 hts gL_law_X1_replace rfl rfl rfl (by decide +kernel) ⟨Nat.le_of_ble_eq_true rfl, Nat.le_of_ble_eq_true rfl⟩) rfl hl.1 rfl (Nat.le_of_ble_eq_true rfl) dL_law_279 ⟨Nat.le_of_ble_eq_true rfl, Nat.le_of_ble_eq_true rfl⟩ hS hAm (fun H1 locs hPM hH1 hH2 hS => ?_)
  have hPX := keepX (s := s) hPX hXM hH2
  refine z_same (tgt := 750) hx hb dL_law_282 dL_law_283 (by decide) ?_
  refine z_iinc (k := 3) (lv' := [(3, .int (iI (i + 4))), (0, .ref b), (1, .ref (gX g 0)), (2, .ref (gM g 0))]) hx hb dL_law_750 hl rfl (by decide) rfl (fun ls hl => ?_)
  refine lv_goto (tgt := 18) hx hb dL_law_753 (by decide) ?_
  exact back _ _ _ _ ls (inv_re hI a1 a2 a3) hPX hPM hS (lv_sub hl [1, 2, 3, 0] rfl)
set_option maxHeartbeats 4000000 in
set_option maxRecDepth 100000 in
theorem lc_6 {p : Program} {l : Launch} {e : Env} {s : State} {m : MethodId} {below : List Frame} {meth : Method} {c : Code} {b L : Nat} {xs : Nat → Int32} {g : GG} (hL : L ≤ 2048) (C0 : lw_At p s m meth c b L xs) (G0 : LG g s) {i : Int} (hi : 0 ≤ i ∧ i + 4 ≤ L) {u : ST} {v : VT} {H : Heap} {locs : List Loc} {ls : Array Slot} (hI : Inv u) (hPX : va_P (gD g) vwCl (wX g u) H) (hPM : va_P (gD g) vwCl (wM g u v) H) (hS : va_S (fun q : Nat => s.heap.size ≤ q) s.heap H locs) (hl : lv_has ls 4 [(0, .ref b), (1, .ref (gX g 0)), (2, .ref (gM g 0)), (3, .int (iI i))])
    (back : ∀ (u2 : ST) (v2 : VT) (H2 : Heap) (locs2 : List Loc) (ls2 : Array Slot), Inv u2 → va_P (gD g) vwCl (wX g u2) H2 → va_P (gD g) vwCl (wM g u2 v2) H2 → va_S (fun q : Nat => s.heap.size ≤ q) s.heap H2 locs2 → lv_has ls2 4 [(0, .ref b), (1, .ref (gX g 0)), (2, .ref (gM g 0)), (3, .int (iI (i + 4)))] → W p l e room_1 s m #[Value.ref b] below meth c H2 locs2 18 731 (lw_Z below #[Value.ref b] s) (F0 m 18 ls2 [])) : W p l e room_1 s m #[Value.ref b] below meth c H locs 18 731 (lw_Z below #[Value.ref b] s) (F0 m 288 ls []) := by
  obtain ⟨hx, hb, hr, hml, hown, hts, hX, hbl, hlocks, hgv⟩ := C0
  have hts := fun w h => hts w (wsL_law_in w h)
  have hown : s.vm.findClass RL = some m.cls := hown
  obtain ⟨hg, hAX, hAM, hXM, hK, hZ⟩ := G0
  have hbA : ¬ (fun q : Nat => s.heap.size ≤ q) b := Nat.not_le.mpr hbl
  have hAx : ∀ q, aX g q → s.heap.size ≤ q := fun q ⟨k, hk, e⟩ => by rw [e]; exact hAX k hk
  have hAm : ∀ q, aM g q → s.heap.size ≤ q := fun q ⟨k, hk, e⟩ => by rw [e]; exact hAM k hk
  have hPXs : PX g u s H := ⟨hPX, hK, (hZ.kept hS.2.1).narrow (fun _ h => False.elim h)⟩
  refine lv_aload_n hx hb dL_law_288 rfl (lv_at hl 1 rfl) ?_
  refine zVw_l (As := []) (rest := []) ⟨hx, hb, hml, hown, hts⟩ (PY g u) (PY_blind g u) (PY_mv hPX hK) (rcX hK hPX) (c_X0_removeLast l g u hg hI) (cwV 0 hts gL_law_X0_removeLast rfl rfl rfl (by decide +kernel) ⟨Nat.le_of_ble_eq_true rfl, Nat.le_of_ble_eq_true rfl⟩) rfl hl.1 rfl (Nat.le_of_ble_eq_true rfl) dL_law_289 ⟨Nat.le_of_ble_eq_true rfl, Nat.le_of_ble_eq_true rfl⟩ hS hAx (fun H1 locs hPX hH1 hH2 hS => ?_)
  have hPM := keepM (s := s) hPM hXM hH2
  clear hPXs hH1 hH2
  refine lv_aload_n hx hb dL_law_292 rfl (lv_at hl 2 rfl) ?_
  refine zVw_l (As := []) (rest := [.long (jI (rlR u))]) ⟨hx, hb, hml, hown, hts⟩ (PM g u v) (PM_blind g u v) (PM_mv hPM hK) (rcM hK hPM) (c_X1_removeLast l g u v hg hI) (cwV 0 hts gL_law_X1_removeLast rfl rfl rfl (by decide +kernel) ⟨Nat.le_of_ble_eq_true rfl, Nat.le_of_ble_eq_true rfl⟩) rfl hl.1 rfl (Nat.le_of_ble_eq_true rfl) dL_law_293 ⟨Nat.le_of_ble_eq_true rfl, Nat.le_of_ble_eq_true rfl⟩ hS hAm (fun H1 locs hPM hH1 hH2 hS => ?_)
  have hPX := keepX (s := s) hPX hXM hH2
  refine z_same (tgt := 750) hx hb dL_law_296 dL_law_297 (by decide) ?_
  refine z_iinc (k := 3) (lv' := [(3, .int (iI (i + 4))), (0, .ref b), (1, .ref (gX g 0)), (2, .ref (gM g 0))]) hx hb dL_law_750 hl rfl (by decide) rfl (fun ls hl => ?_)
  refine lv_goto (tgt := 18) hx hb dL_law_753 (by decide) ?_
  exact back _ _ _ _ ls (inv_rl hI) hPX hPM hS (lv_sub hl [1, 2, 3, 0] rfl)
set_option maxHeartbeats 4000000 in
set_option maxRecDepth 100000 in
theorem lc_7 {p : Program} {l : Launch} {e : Env} {s : State} {m : MethodId} {below : List Frame} {meth : Method} {c : Code} {b L : Nat} {xs : Nat → Int32} {g : GG} (hL : L ≤ 2048) (C0 : lw_At p s m meth c b L xs) (G0 : LG g s) {i : Int} (hi : 0 ≤ i ∧ i + 4 ≤ L) {u : ST} {v : VT} {H : Heap} {locs : List Loc} {ls : Array Slot} (hI : Inv u) (hPX : va_P (gD g) vwCl (wX g u) H) (hPM : va_P (gD g) vwCl (wM g u v) H) (hS : va_S (fun q : Nat => s.heap.size ≤ q) s.heap H locs) (hl : lv_has ls 4 [(0, .ref b), (1, .ref (gX g 0)), (2, .ref (gM g 0)), (3, .int (iI i))])
    (back : ∀ (u2 : ST) (v2 : VT) (H2 : Heap) (locs2 : List Loc) (ls2 : Array Slot), Inv u2 → va_P (gD g) vwCl (wX g u2) H2 → va_P (gD g) vwCl (wM g u2 v2) H2 → va_S (fun q : Nat => s.heap.size ≤ q) s.heap H2 locs2 → lv_has ls2 4 [(0, .ref b), (1, .ref (gX g 0)), (2, .ref (gM g 0)), (3, .int (iI (i + 4)))] → W p l e room_1 s m #[Value.ref b] below meth c H2 locs2 18 731 (lw_Z below #[Value.ref b] s) (F0 m 18 ls2 [])) : W p l e room_1 s m #[Value.ref b] below meth c H locs 18 731 (lw_Z below #[Value.ref b] s) (F0 m 302 ls []) := by
  obtain ⟨hx, hb, hr, hml, hown, hts, hX, hbl, hlocks, hgv⟩ := C0
  have hts := fun w h => hts w (wsL_law_in w h)
  have hown : s.vm.findClass RL = some m.cls := hown
  obtain ⟨hg, hAX, hAM, hXM, hK, hZ⟩ := G0
  have hbA : ¬ (fun q : Nat => s.heap.size ≤ q) b := Nat.not_le.mpr hbl
  have hAx : ∀ q, aX g q → s.heap.size ≤ q := fun q ⟨k, hk, e⟩ => by rw [e]; exact hAX k hk
  have hAm : ∀ q, aM g q → s.heap.size ≤ q := fun q ⟨k, hk, e⟩ => by rw [e]; exact hAM k hk
  have hPXs : PX g u s H := ⟨hPX, hK, (hZ.kept hS.2.1).narrow (fun _ h => False.elim h)⟩
  obtain ⟨a1, ha1, ea1⟩ := iI_ex (xs (iI (i + 1)).toNatClampNeg)
  refine lv_aload_n hx hb dL_law_302 rfl (lv_at hl 1 rfl) ?_
  refine lv_aload_n hx hb dL_law_303 rfl (lv_at hl 0 rfl) ?_
  refine lv_iload_n hx hb dL_law_304 rfl (lv_at hl 3 rfl) ?_
  refine z_iconst hx hb dL_law_305 ?_
  refine z_iadd hx hb dL_law_306 ?_
  refine va_sld hx hb hX hbl hbA hS (iI_in (by omega) (by omega) (by omega)) dL_law_307 ?_
  rw [ea1]
  refine zVw_l (As := [.int (iI a1)]) (rest := []) ⟨hx, hb, hml, hown, hts⟩ (PY g u) (PY_blind g u) (PY_mv hPX hK) (rcX hK hPX) (c_X0_lose l g u hg a1 hI ha1) (cwV 1 hts gL_law_X0_lose rfl rfl rfl (by decide +kernel) ⟨Nat.le_of_ble_eq_true rfl, Nat.le_of_ble_eq_true rfl⟩) rfl hl.1 rfl (Nat.le_of_ble_eq_true rfl) dL_law_308 ⟨Nat.le_of_ble_eq_true rfl, Nat.le_of_ble_eq_true rfl⟩ hS hAx (fun H1 locs hPX hH1 hH2 hS => ?_)
  have hPM := keepM (s := s) hPM hXM hH2
  clear hPXs hH1 hH2
  refine lv_aload_n hx hb dL_law_311 rfl (lv_at hl 2 rfl) ?_
  refine lv_aload_n hx hb dL_law_312 rfl (lv_at hl 0 rfl) ?_
  refine lv_iload_n hx hb dL_law_313 rfl (lv_at hl 3 rfl) ?_
  refine z_iconst hx hb dL_law_314 ?_
  refine z_iadd hx hb dL_law_315 ?_
  refine va_sld hx hb hX hbl hbA hS (iI_in (by omega) (by omega) (by omega)) dL_law_316 ?_
  rw [ea1]
  refine zVw_l (As := [.int (iI a1)]) (rest := [.long (jI (loR u a1))]) ⟨hx, hb, hml, hown, hts⟩ (PM g u v) (PM_blind g u v) (PM_mv hPM hK) (rcM hK hPM) (c_X1_lose l g u v hg a1 hI ha1) (cwV 1 hts gL_law_X1_lose rfl rfl rfl (by decide +kernel) ⟨Nat.le_of_ble_eq_true rfl, Nat.le_of_ble_eq_true rfl⟩) rfl hl.1 rfl (Nat.le_of_ble_eq_true rfl) dL_law_317 ⟨Nat.le_of_ble_eq_true rfl, Nat.le_of_ble_eq_true rfl⟩ hS hAm (fun H1 locs hPM hH1 hH2 hS => ?_)
  have hPX := keepX (s := s) hPX hXM hH2
  refine z_same (tgt := 750) hx hb dL_law_320 dL_law_321 (by decide) ?_
  refine z_iinc (k := 3) (lv' := [(3, .int (iI (i + 4))), (0, .ref b), (1, .ref (gX g 0)), (2, .ref (gM g 0))]) hx hb dL_law_750 hl rfl (by decide) rfl (fun ls hl => ?_)
  refine lv_goto (tgt := 18) hx hb dL_law_753 (by decide) ?_
  exact back _ _ _ _ ls (inv_loU hI a1) hPX hPM hS (lv_sub hl [1, 2, 3, 0] rfl)
set_option maxHeartbeats 4000000 in
set_option maxRecDepth 100000 in
theorem lc_8 {p : Program} {l : Launch} {e : Env} {s : State} {m : MethodId} {below : List Frame} {meth : Method} {c : Code} {b L : Nat} {xs : Nat → Int32} {g : GG} (hL : L ≤ 2048) (C0 : lw_At p s m meth c b L xs) (G0 : LG g s) {i : Int} (hi : 0 ≤ i ∧ i + 4 ≤ L) {u : ST} {v : VT} {H : Heap} {locs : List Loc} {ls : Array Slot} (hI : Inv u) (hPX : va_P (gD g) vwCl (wX g u) H) (hPM : va_P (gD g) vwCl (wM g u v) H) (hS : va_S (fun q : Nat => s.heap.size ≤ q) s.heap H locs) (hl : lv_has ls 4 [(0, .ref b), (1, .ref (gX g 0)), (2, .ref (gM g 0)), (3, .int (iI i))])
    (back : ∀ (u2 : ST) (v2 : VT) (H2 : Heap) (locs2 : List Loc) (ls2 : Array Slot), Inv u2 → va_P (gD g) vwCl (wX g u2) H2 → va_P (gD g) vwCl (wM g u2 v2) H2 → va_S (fun q : Nat => s.heap.size ≤ q) s.heap H2 locs2 → lv_has ls2 4 [(0, .ref b), (1, .ref (gX g 0)), (2, .ref (gM g 0)), (3, .int (iI (i + 4)))] → W p l e room_1 s m #[Value.ref b] below meth c H2 locs2 18 731 (lw_Z below #[Value.ref b] s) (F0 m 18 ls2 [])) : W p l e room_1 s m #[Value.ref b] below meth c H locs 18 731 (lw_Z below #[Value.ref b] s) (F0 m 326 ls []) := by
  obtain ⟨hx, hb, hr, hml, hown, hts, hX, hbl, hlocks, hgv⟩ := C0
  have hts := fun w h => hts w (wsL_law_in w h)
  have hown : s.vm.findClass RL = some m.cls := hown
  obtain ⟨hg, hAX, hAM, hXM, hK, hZ⟩ := G0
  have hbA : ¬ (fun q : Nat => s.heap.size ≤ q) b := Nat.not_le.mpr hbl
  have hAx : ∀ q, aX g q → s.heap.size ≤ q := fun q ⟨k, hk, e⟩ => by rw [e]; exact hAX k hk
  have hAm : ∀ q, aM g q → s.heap.size ≤ q := fun q ⟨k, hk, e⟩ => by rw [e]; exact hAM k hk
  have hPXs : PX g u s H := ⟨hPX, hK, (hZ.kept hS.2.1).narrow (fun _ h => False.elim h)⟩
  obtain ⟨a1, ha1, ea1⟩ := iI_ex (xs (iI (i + 1)).toNatClampNeg)
  obtain ⟨a2, ha2, ea2⟩ := iI_ex (xs (iI (i + 2)).toNatClampNeg)
  refine lv_aload_n hx hb dL_law_326 rfl (lv_at hl 1 rfl) ?_
  refine lv_aload_n hx hb dL_law_327 rfl (lv_at hl 0 rfl) ?_
  refine lv_iload_n hx hb dL_law_328 rfl (lv_at hl 3 rfl) ?_
  refine z_iconst hx hb dL_law_329 ?_
  refine z_iadd hx hb dL_law_330 ?_
  refine va_sld hx hb hX hbl hbA hS (iI_in (by omega) (by omega) (by omega)) dL_law_331 ?_
  rw [ea1]
  refine lv_aload_n hx hb dL_law_332 rfl (lv_at hl 0 rfl) ?_
  refine lv_iload_n hx hb dL_law_333 rfl (lv_at hl 3 rfl) ?_
  refine z_iconst hx hb dL_law_334 ?_
  refine z_iadd hx hb dL_law_335 ?_
  refine va_sld hx hb hX hbl hbA hS (iI_in (by omega) (by omega) (by omega)) dL_law_336 ?_
  rw [ea2]
  refine zVw_l (As := [.int (iI a1), .int (iI a2)]) (rest := []) ⟨hx, hb, hml, hown, hts⟩ (PY g u) (PY_blind g u) (PY_mv hPX hK) (rcX hK hPX) (c_X0_setLeeway l g u hg a1 a2 hI ha1 ha2) (cwV 2 hts gL_law_X0_setLeeway rfl rfl rfl (by decide +kernel) ⟨Nat.le_of_ble_eq_true rfl, Nat.le_of_ble_eq_true rfl⟩) rfl hl.1 rfl (Nat.le_of_ble_eq_true rfl) dL_law_337 ⟨Nat.le_of_ble_eq_true rfl, Nat.le_of_ble_eq_true rfl⟩ hS hAx (fun H1 locs hPX hH1 hH2 hS => ?_)
  have hPM := keepM (s := s) hPM hXM hH2
  clear hPXs hH1 hH2
  refine lv_aload_n hx hb dL_law_340 rfl (lv_at hl 2 rfl) ?_
  refine lv_aload_n hx hb dL_law_341 rfl (lv_at hl 0 rfl) ?_
  refine lv_iload_n hx hb dL_law_342 rfl (lv_at hl 3 rfl) ?_
  refine z_iconst hx hb dL_law_343 ?_
  refine z_iadd hx hb dL_law_344 ?_
  refine va_sld hx hb hX hbl hbA hS (iI_in (by omega) (by omega) (by omega)) dL_law_345 ?_
  rw [ea1]
  refine lv_aload_n hx hb dL_law_346 rfl (lv_at hl 0 rfl) ?_
  refine lv_iload_n hx hb dL_law_347 rfl (lv_at hl 3 rfl) ?_
  refine z_iconst hx hb dL_law_348 ?_
  refine z_iadd hx hb dL_law_349 ?_
  refine va_sld hx hb hX hbl hbA hS (iI_in (by omega) (by omega) (by omega)) dL_law_350 ?_
  rw [ea2]
  refine zVw_l (As := [.int (iI a1), .int (iI a2)]) (rest := [.long (jI (slR u a1 a2))]) ⟨hx, hb, hml, hown, hts⟩ (PM g u v) (PM_blind g u v) (PM_mv hPM hK) (rcM hK hPM) (c_X1_setLeeway l g u v hg a1 a2 hI ha1 ha2) (cwV 2 hts gL_law_X1_setLeeway rfl rfl rfl (by decide +kernel) ⟨Nat.le_of_ble_eq_true rfl, Nat.le_of_ble_eq_true rfl⟩) rfl hl.1 rfl (Nat.le_of_ble_eq_true rfl) dL_law_351 ⟨Nat.le_of_ble_eq_true rfl, Nat.le_of_ble_eq_true rfl⟩ hS hAm (fun H1 locs hPM hH1 hH2 hS => ?_)
  have hPX := keepX (s := s) hPX hXM hH2
  refine z_same (tgt := 750) hx hb dL_law_354 dL_law_355 (by decide) ?_
  refine z_iinc (k := 3) (lv' := [(3, .int (iI (i + 4))), (0, .ref b), (1, .ref (gX g 0)), (2, .ref (gM g 0))]) hx hb dL_law_750 hl rfl (by decide) rfl (fun ls hl => ?_)
  refine lv_goto (tgt := 18) hx hb dL_law_753 (by decide) ?_
  exact back _ _ _ _ ls (inv_sl hI a1 a2) hPX hPM hS (lv_sub hl [1, 2, 3, 0] rfl)
set_option maxHeartbeats 4000000 in
set_option maxRecDepth 100000 in
theorem lc_9 {p : Program} {l : Launch} {e : Env} {s : State} {m : MethodId} {below : List Frame} {meth : Method} {c : Code} {b L : Nat} {xs : Nat → Int32} {g : GG} (hL : L ≤ 2048) (C0 : lw_At p s m meth c b L xs) (G0 : LG g s) {i : Int} (hi : 0 ≤ i ∧ i + 4 ≤ L) {u : ST} {v : VT} {H : Heap} {locs : List Loc} {ls : Array Slot} (hI : Inv u) (hPX : va_P (gD g) vwCl (wX g u) H) (hPM : va_P (gD g) vwCl (wM g u v) H) (hS : va_S (fun q : Nat => s.heap.size ≤ q) s.heap H locs) (hl : lv_has ls 4 [(0, .ref b), (1, .ref (gX g 0)), (2, .ref (gM g 0)), (3, .int (iI i))])
    (back : ∀ (u2 : ST) (v2 : VT) (H2 : Heap) (locs2 : List Loc) (ls2 : Array Slot), Inv u2 → va_P (gD g) vwCl (wX g u2) H2 → va_P (gD g) vwCl (wM g u2 v2) H2 → va_S (fun q : Nat => s.heap.size ≤ q) s.heap H2 locs2 → lv_has ls2 4 [(0, .ref b), (1, .ref (gX g 0)), (2, .ref (gM g 0)), (3, .int (iI (i + 4)))] → W p l e room_1 s m #[Value.ref b] below meth c H2 locs2 18 731 (lw_Z below #[Value.ref b] s) (F0 m 18 ls2 [])) : W p l e room_1 s m #[Value.ref b] below meth c H locs 18 731 (lw_Z below #[Value.ref b] s) (F0 m 360 ls []) := by
  obtain ⟨hx, hb, hr, hml, hown, hts, hX, hbl, hlocks, hgv⟩ := C0
  have hts := fun w h => hts w (wsL_law_in w h)
  have hown : s.vm.findClass RL = some m.cls := hown
  obtain ⟨hg, hAX, hAM, hXM, hK, hZ⟩ := G0
  have hbA : ¬ (fun q : Nat => s.heap.size ≤ q) b := Nat.not_le.mpr hbl
  have hAx : ∀ q, aX g q → s.heap.size ≤ q := fun q ⟨k, hk, e⟩ => by rw [e]; exact hAX k hk
  have hAm : ∀ q, aM g q → s.heap.size ≤ q := fun q ⟨k, hk, e⟩ => by rw [e]; exact hAM k hk
  have hPXs : PX g u s H := ⟨hPX, hK, (hZ.kept hS.2.1).narrow (fun _ h => False.elim h)⟩
  obtain ⟨a1, ha1, ea1⟩ := iI_ex (xs (iI (i + 1)).toNatClampNeg)
  obtain ⟨a2, ha2, ea2⟩ := iI_ex (xs (iI (i + 2)).toNatClampNeg)
  refine lv_aload_n hx hb dL_law_360 rfl (lv_at hl 1 rfl) ?_
  refine lv_aload_n hx hb dL_law_361 rfl (lv_at hl 0 rfl) ?_
  refine lv_iload_n hx hb dL_law_362 rfl (lv_at hl 3 rfl) ?_
  refine z_iconst hx hb dL_law_363 ?_
  refine z_iadd hx hb dL_law_364 ?_
  refine va_sld hx hb hX hbl hbA hS (iI_in (by omega) (by omega) (by omega)) dL_law_365 ?_
  rw [ea1]
  refine lv_aload_n hx hb dL_law_366 rfl (lv_at hl 0 rfl) ?_
  refine lv_iload_n hx hb dL_law_367 rfl (lv_at hl 3 rfl) ?_
  refine z_iconst hx hb dL_law_368 ?_
  refine z_iadd hx hb dL_law_369 ?_
  refine va_sld hx hb hX hbl hbA hS (iI_in (by omega) (by omega) (by omega)) dL_law_370 ?_
  rw [ea2]
  refine zVw_l (As := [.int (iI a1), .int (iI a2)]) (rest := []) ⟨hx, hb, hml, hown, hts⟩ (PY g u) (PY_blind g u) (PY_mv hPX hK) (rcX hK hPX) (c_X0_setCurrent l g u hg a1 a2 hI ha1 ha2) (cwV 2 hts gL_law_X0_setCurrent rfl rfl rfl (by decide +kernel) ⟨Nat.le_of_ble_eq_true rfl, Nat.le_of_ble_eq_true rfl⟩) rfl hl.1 rfl (Nat.le_of_ble_eq_true rfl) dL_law_371 ⟨Nat.le_of_ble_eq_true rfl, Nat.le_of_ble_eq_true rfl⟩ hS hAx (fun H1 locs hPX hH1 hH2 hS => ?_)
  have hPM := keepM (s := s) hPM hXM hH2
  clear hPXs hH1 hH2
  refine lv_aload_n hx hb dL_law_374 rfl (lv_at hl 2 rfl) ?_
  refine lv_aload_n hx hb dL_law_375 rfl (lv_at hl 0 rfl) ?_
  refine lv_iload_n hx hb dL_law_376 rfl (lv_at hl 3 rfl) ?_
  refine z_iconst hx hb dL_law_377 ?_
  refine z_iadd hx hb dL_law_378 ?_
  refine va_sld hx hb hX hbl hbA hS (iI_in (by omega) (by omega) (by omega)) dL_law_379 ?_
  rw [ea1]
  refine lv_aload_n hx hb dL_law_380 rfl (lv_at hl 0 rfl) ?_
  refine lv_iload_n hx hb dL_law_381 rfl (lv_at hl 3 rfl) ?_
  refine z_iconst hx hb dL_law_382 ?_
  refine z_iadd hx hb dL_law_383 ?_
  refine va_sld hx hb hX hbl hbA hS (iI_in (by omega) (by omega) (by omega)) dL_law_384 ?_
  rw [ea2]
  refine zVw_l (As := [.int (iI a1), .int (iI a2)]) (rest := [.long (jI (scR u a1 a2))]) ⟨hx, hb, hml, hown, hts⟩ (PM g u v) (PM_blind g u v) (PM_mv hPM hK) (rcM hK hPM) (c_X1_setCurrent l g u v hg a1 a2 hI ha1 ha2) (cwV 2 hts gL_law_X1_setCurrent rfl rfl rfl (by decide +kernel) ⟨Nat.le_of_ble_eq_true rfl, Nat.le_of_ble_eq_true rfl⟩) rfl hl.1 rfl (Nat.le_of_ble_eq_true rfl) dL_law_385 ⟨Nat.le_of_ble_eq_true rfl, Nat.le_of_ble_eq_true rfl⟩ hS hAm (fun H1 locs hPM hH1 hH2 hS => ?_)
  have hPX := keepX (s := s) hPX hXM hH2
  refine z_same (tgt := 750) hx hb dL_law_388 dL_law_389 (by decide) ?_
  refine z_iinc (k := 3) (lv' := [(3, .int (iI (i + 4))), (0, .ref b), (1, .ref (gX g 0)), (2, .ref (gM g 0))]) hx hb dL_law_750 hl rfl (by decide) rfl (fun ls hl => ?_)
  refine lv_goto (tgt := 18) hx hb dL_law_753 (by decide) ?_
  exact back _ _ _ _ ls (inv_sc hI a1 a2) hPX hPM hS (lv_sub hl [1, 2, 3, 0] rfl)
set_option maxHeartbeats 4000000 in
set_option maxRecDepth 100000 in
theorem lc_10 {p : Program} {l : Launch} {e : Env} {s : State} {m : MethodId} {below : List Frame} {meth : Method} {c : Code} {b L : Nat} {xs : Nat → Int32} {g : GG} (hL : L ≤ 2048) (C0 : lw_At p s m meth c b L xs) (G0 : LG g s) {i : Int} (hi : 0 ≤ i ∧ i + 4 ≤ L) {u : ST} {v : VT} {H : Heap} {locs : List Loc} {ls : Array Slot} (hI : Inv u) (hPX : va_P (gD g) vwCl (wX g u) H) (hPM : va_P (gD g) vwCl (wM g u v) H) (hS : va_S (fun q : Nat => s.heap.size ≤ q) s.heap H locs) (hl : lv_has ls 4 [(0, .ref b), (1, .ref (gX g 0)), (2, .ref (gM g 0)), (3, .int (iI i))])
    (back : ∀ (u2 : ST) (v2 : VT) (H2 : Heap) (locs2 : List Loc) (ls2 : Array Slot), Inv u2 → va_P (gD g) vwCl (wX g u2) H2 → va_P (gD g) vwCl (wM g u2 v2) H2 → va_S (fun q : Nat => s.heap.size ≤ q) s.heap H2 locs2 → lv_has ls2 4 [(0, .ref b), (1, .ref (gX g 0)), (2, .ref (gM g 0)), (3, .int (iI (i + 4)))] → W p l e room_1 s m #[Value.ref b] below meth c H2 locs2 18 731 (lw_Z below #[Value.ref b] s) (F0 m 18 ls2 [])) : W p l e room_1 s m #[Value.ref b] below meth c H locs 18 731 (lw_Z below #[Value.ref b] s) (F0 m 394 ls []) := by
  obtain ⟨hx, hb, hr, hml, hown, hts, hX, hbl, hlocks, hgv⟩ := C0
  have hts := fun w h => hts w (wsL_law_in w h)
  have hown : s.vm.findClass RL = some m.cls := hown
  obtain ⟨hg, hAX, hAM, hXM, hK, hZ⟩ := G0
  have hbA : ¬ (fun q : Nat => s.heap.size ≤ q) b := Nat.not_le.mpr hbl
  have hAx : ∀ q, aX g q → s.heap.size ≤ q := fun q ⟨k, hk, e⟩ => by rw [e]; exact hAX k hk
  have hAm : ∀ q, aM g q → s.heap.size ≤ q := fun q ⟨k, hk, e⟩ => by rw [e]; exact hAM k hk
  have hPXs : PX g u s H := ⟨hPX, hK, (hZ.kept hS.2.1).narrow (fun _ h => False.elim h)⟩
  refine lv_aload_n hx hb dL_law_394 rfl (lv_at hl 1 rfl) ?_
  refine zV_l (As := []) (rest := []) ⟨hx, hb, hml, hown, hts⟩ (PY g u) (PY_blind g u) (PY_mv hPX hK) (rcX hK hPX) (c_X0_pegCount l g u hI) (cwV 0 hts gL_law_X0_pegCount rfl rfl rfl (by decide +kernel) ⟨Nat.le_of_ble_eq_true rfl, Nat.le_of_ble_eq_true rfl⟩) rfl hl.1 rfl (Nat.le_of_ble_eq_true rfl) dL_law_395 ⟨Nat.le_of_ble_eq_true rfl, Nat.le_of_ble_eq_true rfl⟩ ?_
  refine lv_aload_n hx hb dL_law_398 rfl (lv_at hl 2 rfl) ?_
  refine zV_l (As := []) (rest := [.long (jI (zpg u))]) ⟨hx, hb, hml, hown, hts⟩ (PM g u v) (PM_blind g u v) (PM_mv hPM hK) (rcM hK hPM) (c_X1_pegCount l g u v hI) (cwV 0 hts gL_law_X1_pegCount rfl rfl rfl (by decide +kernel) ⟨Nat.le_of_ble_eq_true rfl, Nat.le_of_ble_eq_true rfl⟩) rfl hl.1 rfl (Nat.le_of_ble_eq_true rfl) dL_law_399 ⟨Nat.le_of_ble_eq_true rfl, Nat.le_of_ble_eq_true rfl⟩ ?_
  refine z_same (tgt := 750) hx hb dL_law_402 dL_law_403 (by decide) ?_
  refine z_iinc (k := 3) (lv' := [(3, .int (iI (i + 4))), (0, .ref b), (1, .ref (gX g 0)), (2, .ref (gM g 0))]) hx hb dL_law_750 hl rfl (by decide) rfl (fun ls hl => ?_)
  refine lv_goto (tgt := 18) hx hb dL_law_753 (by decide) ?_
  exact back _ _ _ _ ls (hI) hPX hPM hS (lv_sub hl [1, 2, 3, 0] rfl)
set_option maxHeartbeats 4000000 in
set_option maxRecDepth 100000 in
theorem lc_11 {p : Program} {l : Launch} {e : Env} {s : State} {m : MethodId} {below : List Frame} {meth : Method} {c : Code} {b L : Nat} {xs : Nat → Int32} {g : GG} (hL : L ≤ 2048) (C0 : lw_At p s m meth c b L xs) (G0 : LG g s) {i : Int} (hi : 0 ≤ i ∧ i + 4 ≤ L) {u : ST} {v : VT} {H : Heap} {locs : List Loc} {ls : Array Slot} (hI : Inv u) (hPX : va_P (gD g) vwCl (wX g u) H) (hPM : va_P (gD g) vwCl (wM g u v) H) (hS : va_S (fun q : Nat => s.heap.size ≤ q) s.heap H locs) (hl : lv_has ls 4 [(0, .ref b), (1, .ref (gX g 0)), (2, .ref (gM g 0)), (3, .int (iI i))])
    (back : ∀ (u2 : ST) (v2 : VT) (H2 : Heap) (locs2 : List Loc) (ls2 : Array Slot), Inv u2 → va_P (gD g) vwCl (wX g u2) H2 → va_P (gD g) vwCl (wM g u2 v2) H2 → va_S (fun q : Nat => s.heap.size ≤ q) s.heap H2 locs2 → lv_has ls2 4 [(0, .ref b), (1, .ref (gX g 0)), (2, .ref (gM g 0)), (3, .int (iI (i + 4)))] → W p l e room_1 s m #[Value.ref b] below meth c H2 locs2 18 731 (lw_Z below #[Value.ref b] s) (F0 m 18 ls2 [])) : W p l e room_1 s m #[Value.ref b] below meth c H locs 18 731 (lw_Z below #[Value.ref b] s) (F0 m 408 ls []) := by
  obtain ⟨hx, hb, hr, hml, hown, hts, hX, hbl, hlocks, hgv⟩ := C0
  have hts := fun w h => hts w (wsL_law_in w h)
  have hown : s.vm.findClass RL = some m.cls := hown
  obtain ⟨hg, hAX, hAM, hXM, hK, hZ⟩ := G0
  have hbA : ¬ (fun q : Nat => s.heap.size ≤ q) b := Nat.not_le.mpr hbl
  have hAx : ∀ q, aX g q → s.heap.size ≤ q := fun q ⟨k, hk, e⟩ => by rw [e]; exact hAX k hk
  have hAm : ∀ q, aM g q → s.heap.size ≤ q := fun q ⟨k, hk, e⟩ => by rw [e]; exact hAM k hk
  have hPXs : PX g u s H := ⟨hPX, hK, (hZ.kept hS.2.1).narrow (fun _ h => False.elim h)⟩
  obtain ⟨a1, ha1, ea1⟩ := iI_ex (xs (iI (i + 1)).toNatClampNeg)
  refine lv_aload_n hx hb dL_law_408 rfl (lv_at hl 1 rfl) ?_
  refine lv_aload_n hx hb dL_law_409 rfl (lv_at hl 0 rfl) ?_
  refine lv_iload_n hx hb dL_law_410 rfl (lv_at hl 3 rfl) ?_
  refine z_iconst hx hb dL_law_411 ?_
  refine z_iadd hx hb dL_law_412 ?_
  refine va_sld hx hb hX hbl hbA hS (iI_in (by omega) (by omega) (by omega)) dL_law_413 ?_
  rw [ea1]
  refine zV_l (As := [.int (iI a1)]) (rest := []) ⟨hx, hb, hml, hown, hts⟩ (PY g u) (PY_blind g u) (PY_mv hPX hK) (rcX hK hPX) (c_X0_pointOf l g u a1 hI ha1) (cwV 1 hts gL_law_X0_pointOf rfl rfl rfl (by decide +kernel) ⟨Nat.le_of_ble_eq_true rfl, Nat.le_of_ble_eq_true rfl⟩) rfl hl.1 rfl (Nat.le_of_ble_eq_true rfl) dL_law_414 ⟨Nat.le_of_ble_eq_true rfl, Nat.le_of_ble_eq_true rfl⟩ ?_
  refine lv_aload_n hx hb dL_law_417 rfl (lv_at hl 2 rfl) ?_
  refine lv_aload_n hx hb dL_law_418 rfl (lv_at hl 0 rfl) ?_
  refine lv_iload_n hx hb dL_law_419 rfl (lv_at hl 3 rfl) ?_
  refine z_iconst hx hb dL_law_420 ?_
  refine z_iadd hx hb dL_law_421 ?_
  refine va_sld hx hb hX hbl hbA hS (iI_in (by omega) (by omega) (by omega)) dL_law_422 ?_
  rw [ea1]
  refine zV_l (As := [.int (iI a1)]) (rest := [.long (jI (poR u a1))]) ⟨hx, hb, hml, hown, hts⟩ (PM g u v) (PM_blind g u v) (PM_mv hPM hK) (rcM hK hPM) (c_X1_pointOf l g u v a1 hI ha1) (cwV 1 hts gL_law_X1_pointOf rfl rfl rfl (by decide +kernel) ⟨Nat.le_of_ble_eq_true rfl, Nat.le_of_ble_eq_true rfl⟩) rfl hl.1 rfl (Nat.le_of_ble_eq_true rfl) dL_law_423 ⟨Nat.le_of_ble_eq_true rfl, Nat.le_of_ble_eq_true rfl⟩ ?_
  refine z_same (tgt := 750) hx hb dL_law_426 dL_law_427 (by decide) ?_
  refine z_iinc (k := 3) (lv' := [(3, .int (iI (i + 4))), (0, .ref b), (1, .ref (gX g 0)), (2, .ref (gM g 0))]) hx hb dL_law_750 hl rfl (by decide) rfl (fun ls hl => ?_)
  refine lv_goto (tgt := 18) hx hb dL_law_753 (by decide) ?_
  exact back _ _ _ _ ls (hI) hPX hPM hS (lv_sub hl [1, 2, 3, 0] rfl)
set_option maxHeartbeats 4000000 in
set_option maxRecDepth 100000 in
theorem lc_12 {p : Program} {l : Launch} {e : Env} {s : State} {m : MethodId} {below : List Frame} {meth : Method} {c : Code} {b L : Nat} {xs : Nat → Int32} {g : GG} (hL : L ≤ 2048) (C0 : lw_At p s m meth c b L xs) (G0 : LG g s) {i : Int} (hi : 0 ≤ i ∧ i + 4 ≤ L) {u : ST} {v : VT} {H : Heap} {locs : List Loc} {ls : Array Slot} (hI : Inv u) (hPX : va_P (gD g) vwCl (wX g u) H) (hPM : va_P (gD g) vwCl (wM g u v) H) (hS : va_S (fun q : Nat => s.heap.size ≤ q) s.heap H locs) (hl : lv_has ls 4 [(0, .ref b), (1, .ref (gX g 0)), (2, .ref (gM g 0)), (3, .int (iI i))])
    (back : ∀ (u2 : ST) (v2 : VT) (H2 : Heap) (locs2 : List Loc) (ls2 : Array Slot), Inv u2 → va_P (gD g) vwCl (wX g u2) H2 → va_P (gD g) vwCl (wM g u2 v2) H2 → va_S (fun q : Nat => s.heap.size ≤ q) s.heap H2 locs2 → lv_has ls2 4 [(0, .ref b), (1, .ref (gX g 0)), (2, .ref (gM g 0)), (3, .int (iI (i + 4)))] → W p l e room_1 s m #[Value.ref b] below meth c H2 locs2 18 731 (lw_Z below #[Value.ref b] s) (F0 m 18 ls2 [])) : W p l e room_1 s m #[Value.ref b] below meth c H locs 18 731 (lw_Z below #[Value.ref b] s) (F0 m 432 ls []) := by
  obtain ⟨hx, hb, hr, hml, hown, hts, hX, hbl, hlocks, hgv⟩ := C0
  have hts := fun w h => hts w (wsL_law_in w h)
  have hown : s.vm.findClass RL = some m.cls := hown
  obtain ⟨hg, hAX, hAM, hXM, hK, hZ⟩ := G0
  have hbA : ¬ (fun q : Nat => s.heap.size ≤ q) b := Nat.not_le.mpr hbl
  have hAx : ∀ q, aX g q → s.heap.size ≤ q := fun q ⟨k, hk, e⟩ => by rw [e]; exact hAX k hk
  have hAm : ∀ q, aM g q → s.heap.size ≤ q := fun q ⟨k, hk, e⟩ => by rw [e]; exact hAM k hk
  have hPXs : PX g u s H := ⟨hPX, hK, (hZ.kept hS.2.1).narrow (fun _ h => False.elim h)⟩
  obtain ⟨a1, ha1, ea1⟩ := iI_ex (xs (iI (i + 1)).toNatClampNeg)
  refine lv_aload_n hx hb dL_law_432 rfl (lv_at hl 1 rfl) ?_
  refine lv_aload_n hx hb dL_law_433 rfl (lv_at hl 0 rfl) ?_
  refine lv_iload_n hx hb dL_law_434 rfl (lv_at hl 3 rfl) ?_
  refine z_iconst hx hb dL_law_435 ?_
  refine z_iadd hx hb dL_law_436 ?_
  refine va_sld hx hb hX hbl hbA hS (iI_in (by omega) (by omega) (by omega)) dL_law_437 ?_
  rw [ea1]
  refine zV_l (As := [.int (iI a1)]) (rest := []) ⟨hx, hb, hml, hown, hts⟩ (PY g u) (PY_blind g u) (PY_mv hPX hK) (rcX hK hPX) (c_X0_speedOf l g u a1 hI ha1) (cwV 1 hts gL_law_X0_speedOf rfl rfl rfl (by decide +kernel) ⟨Nat.le_of_ble_eq_true rfl, Nat.le_of_ble_eq_true rfl⟩) rfl hl.1 rfl (Nat.le_of_ble_eq_true rfl) dL_law_438 ⟨Nat.le_of_ble_eq_true rfl, Nat.le_of_ble_eq_true rfl⟩ ?_
  refine lv_aload_n hx hb dL_law_441 rfl (lv_at hl 2 rfl) ?_
  refine lv_aload_n hx hb dL_law_442 rfl (lv_at hl 0 rfl) ?_
  refine lv_iload_n hx hb dL_law_443 rfl (lv_at hl 3 rfl) ?_
  refine z_iconst hx hb dL_law_444 ?_
  refine z_iadd hx hb dL_law_445 ?_
  refine va_sld hx hb hX hbl hbA hS (iI_in (by omega) (by omega) (by omega)) dL_law_446 ?_
  rw [ea1]
  refine zV_l (As := [.int (iI a1)]) (rest := [.long (jI (spR u a1))]) ⟨hx, hb, hml, hown, hts⟩ (PM g u v) (PM_blind g u v) (PM_mv hPM hK) (rcM hK hPM) (c_X1_speedOf l g u v a1 hI ha1) (cwV 1 hts gL_law_X1_speedOf rfl rfl rfl (by decide +kernel) ⟨Nat.le_of_ble_eq_true rfl, Nat.le_of_ble_eq_true rfl⟩) rfl hl.1 rfl (Nat.le_of_ble_eq_true rfl) dL_law_447 ⟨Nat.le_of_ble_eq_true rfl, Nat.le_of_ble_eq_true rfl⟩ ?_
  refine z_same (tgt := 750) hx hb dL_law_450 dL_law_451 (by decide) ?_
  refine z_iinc (k := 3) (lv' := [(3, .int (iI (i + 4))), (0, .ref b), (1, .ref (gX g 0)), (2, .ref (gM g 0))]) hx hb dL_law_750 hl rfl (by decide) rfl (fun ls hl => ?_)
  refine lv_goto (tgt := 18) hx hb dL_law_753 (by decide) ?_
  exact back _ _ _ _ ls (hI) hPX hPM hS (lv_sub hl [1, 2, 3, 0] rfl)
set_option maxHeartbeats 4000000 in
set_option maxRecDepth 100000 in
theorem lc_13 {p : Program} {l : Launch} {e : Env} {s : State} {m : MethodId} {below : List Frame} {meth : Method} {c : Code} {b L : Nat} {xs : Nat → Int32} {g : GG} (hL : L ≤ 2048) (C0 : lw_At p s m meth c b L xs) (G0 : LG g s) {i : Int} (hi : 0 ≤ i ∧ i + 4 ≤ L) {u : ST} {v : VT} {H : Heap} {locs : List Loc} {ls : Array Slot} (hI : Inv u) (hPX : va_P (gD g) vwCl (wX g u) H) (hPM : va_P (gD g) vwCl (wM g u v) H) (hS : va_S (fun q : Nat => s.heap.size ≤ q) s.heap H locs) (hl : lv_has ls 4 [(0, .ref b), (1, .ref (gX g 0)), (2, .ref (gM g 0)), (3, .int (iI i))])
    (back : ∀ (u2 : ST) (v2 : VT) (H2 : Heap) (locs2 : List Loc) (ls2 : Array Slot), Inv u2 → va_P (gD g) vwCl (wX g u2) H2 → va_P (gD g) vwCl (wM g u2 v2) H2 → va_S (fun q : Nat => s.heap.size ≤ q) s.heap H2 locs2 → lv_has ls2 4 [(0, .ref b), (1, .ref (gX g 0)), (2, .ref (gM g 0)), (3, .int (iI (i + 4)))] → W p l e room_1 s m #[Value.ref b] below meth c H2 locs2 18 731 (lw_Z below #[Value.ref b] s) (F0 m 18 ls2 [])) : W p l e room_1 s m #[Value.ref b] below meth c H locs 18 731 (lw_Z below #[Value.ref b] s) (F0 m 456 ls []) := by
  obtain ⟨hx, hb, hr, hml, hown, hts, hX, hbl, hlocks, hgv⟩ := C0
  have hts := fun w h => hts w (wsL_law_in w h)
  have hown : s.vm.findClass RL = some m.cls := hown
  obtain ⟨hg, hAX, hAM, hXM, hK, hZ⟩ := G0
  have hbA : ¬ (fun q : Nat => s.heap.size ≤ q) b := Nat.not_le.mpr hbl
  have hAx : ∀ q, aX g q → s.heap.size ≤ q := fun q ⟨k, hk, e⟩ => by rw [e]; exact hAX k hk
  have hAm : ∀ q, aM g q → s.heap.size ≤ q := fun q ⟨k, hk, e⟩ => by rw [e]; exact hAM k hk
  have hPXs : PX g u s H := ⟨hPX, hK, (hZ.kept hS.2.1).narrow (fun _ h => False.elim h)⟩
  obtain ⟨a1, ha1, ea1⟩ := iI_ex (xs (iI (i + 1)).toNatClampNeg)
  refine lv_aload_n hx hb dL_law_456 rfl (lv_at hl 1 rfl) ?_
  refine lv_aload_n hx hb dL_law_457 rfl (lv_at hl 0 rfl) ?_
  refine lv_iload_n hx hb dL_law_458 rfl (lv_at hl 3 rfl) ?_
  refine z_iconst hx hb dL_law_459 ?_
  refine z_iadd hx hb dL_law_460 ?_
  refine va_sld hx hb hX hbl hbA hS (iI_in (by omega) (by omega) (by omega)) dL_law_461 ?_
  rw [ea1]
  refine zV_l (As := [.int (iI a1)]) (rest := []) ⟨hx, hb, hml, hown, hts⟩ (PY g u) (PY_blind g u) (PY_mv hPX hK) (rcX hK hPX) (c_X0_speedTowards l g u a1 hI ha1) (cwV 1 hts gL_law_X0_speedTowards rfl rfl rfl (by decide +kernel) ⟨Nat.le_of_ble_eq_true rfl, Nat.le_of_ble_eq_true rfl⟩) rfl hl.1 rfl (Nat.le_of_ble_eq_true rfl) dL_law_462 ⟨Nat.le_of_ble_eq_true rfl, Nat.le_of_ble_eq_true rfl⟩ ?_
  refine lv_aload_n hx hb dL_law_465 rfl (lv_at hl 2 rfl) ?_
  refine lv_aload_n hx hb dL_law_466 rfl (lv_at hl 0 rfl) ?_
  refine lv_iload_n hx hb dL_law_467 rfl (lv_at hl 3 rfl) ?_
  refine z_iconst hx hb dL_law_468 ?_
  refine z_iadd hx hb dL_law_469 ?_
  refine va_sld hx hb hX hbl hbA hS (iI_in (by omega) (by omega) (by omega)) dL_law_470 ?_
  rw [ea1]
  refine zV_l (As := [.int (iI a1)]) (rest := [.long (jI (stR u a1))]) ⟨hx, hb, hml, hown, hts⟩ (PM g u v) (PM_blind g u v) (PM_mv hPM hK) (rcM hK hPM) (c_X1_speedTowards l g u v a1 hI ha1) (cwV 1 hts gL_law_X1_speedTowards rfl rfl rfl (by decide +kernel) ⟨Nat.le_of_ble_eq_true rfl, Nat.le_of_ble_eq_true rfl⟩) rfl hl.1 rfl (Nat.le_of_ble_eq_true rfl) dL_law_471 ⟨Nat.le_of_ble_eq_true rfl, Nat.le_of_ble_eq_true rfl⟩ ?_
  refine z_same (tgt := 750) hx hb dL_law_474 dL_law_475 (by decide) ?_
  refine z_iinc (k := 3) (lv' := [(3, .int (iI (i + 4))), (0, .ref b), (1, .ref (gX g 0)), (2, .ref (gM g 0))]) hx hb dL_law_750 hl rfl (by decide) rfl (fun ls hl => ?_)
  refine lv_goto (tgt := 18) hx hb dL_law_753 (by decide) ?_
  exact back _ _ _ _ ls (hI) hPX hPM hS (lv_sub hl [1, 2, 3, 0] rfl)
set_option maxHeartbeats 4000000 in
set_option maxRecDepth 100000 in
theorem lc_14 {p : Program} {l : Launch} {e : Env} {s : State} {m : MethodId} {below : List Frame} {meth : Method} {c : Code} {b L : Nat} {xs : Nat → Int32} {g : GG} (hL : L ≤ 2048) (C0 : lw_At p s m meth c b L xs) (G0 : LG g s) {i : Int} (hi : 0 ≤ i ∧ i + 4 ≤ L) {u : ST} {v : VT} {H : Heap} {locs : List Loc} {ls : Array Slot} (hI : Inv u) (hPX : va_P (gD g) vwCl (wX g u) H) (hPM : va_P (gD g) vwCl (wM g u v) H) (hS : va_S (fun q : Nat => s.heap.size ≤ q) s.heap H locs) (hl : lv_has ls 4 [(0, .ref b), (1, .ref (gX g 0)), (2, .ref (gM g 0)), (3, .int (iI i))])
    (back : ∀ (u2 : ST) (v2 : VT) (H2 : Heap) (locs2 : List Loc) (ls2 : Array Slot), Inv u2 → va_P (gD g) vwCl (wX g u2) H2 → va_P (gD g) vwCl (wM g u2 v2) H2 → va_S (fun q : Nat => s.heap.size ≤ q) s.heap H2 locs2 → lv_has ls2 4 [(0, .ref b), (1, .ref (gX g 0)), (2, .ref (gM g 0)), (3, .int (iI (i + 4)))] → W p l e room_1 s m #[Value.ref b] below meth c H2 locs2 18 731 (lw_Z below #[Value.ref b] s) (F0 m 18 ls2 [])) : W p l e room_1 s m #[Value.ref b] below meth c H locs 18 731 (lw_Z below #[Value.ref b] s) (F0 m 480 ls []) := by
  obtain ⟨hx, hb, hr, hml, hown, hts, hX, hbl, hlocks, hgv⟩ := C0
  have hts := fun w h => hts w (wsL_law_in w h)
  have hown : s.vm.findClass RL = some m.cls := hown
  obtain ⟨hg, hAX, hAM, hXM, hK, hZ⟩ := G0
  have hbA : ¬ (fun q : Nat => s.heap.size ≤ q) b := Nat.not_le.mpr hbl
  have hAx : ∀ q, aX g q → s.heap.size ≤ q := fun q ⟨k, hk, e⟩ => by rw [e]; exact hAX k hk
  have hAm : ∀ q, aM g q → s.heap.size ≤ q := fun q ⟨k, hk, e⟩ => by rw [e]; exact hAM k hk
  have hPXs : PX g u s H := ⟨hPX, hK, (hZ.kept hS.2.1).narrow (fun _ h => False.elim h)⟩
  obtain ⟨a1, ha1, ea1⟩ := iI_ex (xs (iI (i + 1)).toNatClampNeg)
  obtain ⟨a2, ha2, ea2⟩ := iI_ex (xs (iI (i + 2)).toNatClampNeg)
  obtain ⟨a3, ha3, ea3⟩ := iI_ex (xs (iI (i + 3)).toNatClampNeg)
  refine lv_aload_n hx hb dL_law_480 rfl (lv_at hl 1 rfl) ?_
  refine lv_aload_n hx hb dL_law_481 rfl (lv_at hl 0 rfl) ?_
  refine lv_iload_n hx hb dL_law_482 rfl (lv_at hl 3 rfl) ?_
  refine z_iconst hx hb dL_law_483 ?_
  refine z_iadd hx hb dL_law_484 ?_
  refine va_sld hx hb hX hbl hbA hS (iI_in (by omega) (by omega) (by omega)) dL_law_485 ?_
  rw [ea1]
  refine lv_aload_n hx hb dL_law_486 rfl (lv_at hl 0 rfl) ?_
  refine lv_iload_n hx hb dL_law_487 rfl (lv_at hl 3 rfl) ?_
  refine z_iconst hx hb dL_law_488 ?_
  refine z_iadd hx hb dL_law_489 ?_
  refine va_sld hx hb hX hbl hbA hS (iI_in (by omega) (by omega) (by omega)) dL_law_490 ?_
  rw [ea2]
  refine lv_aload_n hx hb dL_law_491 rfl (lv_at hl 0 rfl) ?_
  refine lv_iload_n hx hb dL_law_492 rfl (lv_at hl 3 rfl) ?_
  refine z_iconst hx hb dL_law_493 ?_
  refine z_iadd hx hb dL_law_494 ?_
  refine va_sld hx hb hX hbl hbA hS (iI_in (by omega) (by omega) (by omega)) dL_law_495 ?_
  rw [ea3]
  refine zVw_l (As := [.int (iI a1), .int (iI a2), .int (iI a3)]) (rest := []) ⟨hx, hb, hml, hown, hts⟩ (PY g u) (PY_blind g u) (PY_mv hPX hK) (rcX hK hPX) (c_X0_setFix l g u hg a1 a2 a3 hI ha1 ha2 ha3) (cwV 3 hts gL_law_X0_setFix rfl rfl rfl (by decide +kernel) ⟨Nat.le_of_ble_eq_true rfl, Nat.le_of_ble_eq_true rfl⟩) rfl hl.1 rfl (Nat.le_of_ble_eq_true rfl) dL_law_496 ⟨Nat.le_of_ble_eq_true rfl, Nat.le_of_ble_eq_true rfl⟩ hS hAx (fun H1 locs hPX hH1 hH2 hS => ?_)
  have hPM := keepM (s := s) hPM hXM hH2
  clear hPXs hH1 hH2
  refine lv_aload_n hx hb dL_law_499 rfl (lv_at hl 2 rfl) ?_
  refine lv_aload_n hx hb dL_law_500 rfl (lv_at hl 0 rfl) ?_
  refine lv_iload_n hx hb dL_law_501 rfl (lv_at hl 3 rfl) ?_
  refine z_iconst hx hb dL_law_502 ?_
  refine z_iadd hx hb dL_law_503 ?_
  refine va_sld hx hb hX hbl hbA hS (iI_in (by omega) (by omega) (by omega)) dL_law_504 ?_
  rw [ea1]
  refine lv_aload_n hx hb dL_law_505 rfl (lv_at hl 0 rfl) ?_
  refine lv_iload_n hx hb dL_law_506 rfl (lv_at hl 3 rfl) ?_
  refine z_iconst hx hb dL_law_507 ?_
  refine z_iadd hx hb dL_law_508 ?_
  refine va_sld hx hb hX hbl hbA hS (iI_in (by omega) (by omega) (by omega)) dL_law_509 ?_
  rw [ea2]
  refine lv_aload_n hx hb dL_law_510 rfl (lv_at hl 0 rfl) ?_
  refine lv_iload_n hx hb dL_law_511 rfl (lv_at hl 3 rfl) ?_
  refine z_iconst hx hb dL_law_512 ?_
  refine z_iadd hx hb dL_law_513 ?_
  refine va_sld hx hb hX hbl hbA hS (iI_in (by omega) (by omega) (by omega)) dL_law_514 ?_
  rw [ea3]
  refine zVw_l (As := [.int (iI a1), .int (iI a2), .int (iI a3)]) (rest := [.long (jI (sfR u a1 a2 a3))]) ⟨hx, hb, hml, hown, hts⟩ (PM g u v) (PM_blind g u v) (PM_mv hPM hK) (rcM hK hPM) (c_X1_setFix l g u v hg a1 a2 a3 hI ha1 ha2 ha3) (cwV 3 hts gL_law_X1_setFix rfl rfl rfl (by decide +kernel) ⟨Nat.le_of_ble_eq_true rfl, Nat.le_of_ble_eq_true rfl⟩) rfl hl.1 rfl (Nat.le_of_ble_eq_true rfl) dL_law_515 ⟨Nat.le_of_ble_eq_true rfl, Nat.le_of_ble_eq_true rfl⟩ hS hAm (fun H1 locs hPM hH1 hH2 hS => ?_)
  have hPX := keepX (s := s) hPX hXM hH2
  refine z_same (tgt := 750) hx hb dL_law_518 dL_law_519 (by decide) ?_
  refine z_iinc (k := 3) (lv' := [(3, .int (iI (i + 4))), (0, .ref b), (1, .ref (gX g 0)), (2, .ref (gM g 0))]) hx hb dL_law_750 hl rfl (by decide) rfl (fun ls hl => ?_)
  refine lv_goto (tgt := 18) hx hb dL_law_753 (by decide) ?_
  exact back _ _ _ _ ls (inv_sfU hI a1 a2 a3) hPX hPM hS (lv_sub hl [1, 2, 3, 0] rfl)
set_option maxHeartbeats 4000000 in
set_option maxRecDepth 100000 in
theorem lc_15 {p : Program} {l : Launch} {e : Env} {s : State} {m : MethodId} {below : List Frame} {meth : Method} {c : Code} {b L : Nat} {xs : Nat → Int32} {g : GG} (hL : L ≤ 2048) (C0 : lw_At p s m meth c b L xs) (G0 : LG g s) {i : Int} (hi : 0 ≤ i ∧ i + 4 ≤ L) {u : ST} {v : VT} {H : Heap} {locs : List Loc} {ls : Array Slot} (hI : Inv u) (hPX : va_P (gD g) vwCl (wX g u) H) (hPM : va_P (gD g) vwCl (wM g u v) H) (hS : va_S (fun q : Nat => s.heap.size ≤ q) s.heap H locs) (hl : lv_has ls 4 [(0, .ref b), (1, .ref (gX g 0)), (2, .ref (gM g 0)), (3, .int (iI i))])
    (back : ∀ (u2 : ST) (v2 : VT) (H2 : Heap) (locs2 : List Loc) (ls2 : Array Slot), Inv u2 → va_P (gD g) vwCl (wX g u2) H2 → va_P (gD g) vwCl (wM g u2 v2) H2 → va_S (fun q : Nat => s.heap.size ≤ q) s.heap H2 locs2 → lv_has ls2 4 [(0, .ref b), (1, .ref (gX g 0)), (2, .ref (gM g 0)), (3, .int (iI (i + 4)))] → W p l e room_1 s m #[Value.ref b] below meth c H2 locs2 18 731 (lw_Z below #[Value.ref b] s) (F0 m 18 ls2 [])) : W p l e room_1 s m #[Value.ref b] below meth c H locs 18 731 (lw_Z below #[Value.ref b] s) (F0 m 524 ls []) := by
  obtain ⟨hx, hb, hr, hml, hown, hts, hX, hbl, hlocks, hgv⟩ := C0
  have hts := fun w h => hts w (wsL_law_in w h)
  have hown : s.vm.findClass RL = some m.cls := hown
  obtain ⟨hg, hAX, hAM, hXM, hK, hZ⟩ := G0
  have hbA : ¬ (fun q : Nat => s.heap.size ≤ q) b := Nat.not_le.mpr hbl
  have hAx : ∀ q, aX g q → s.heap.size ≤ q := fun q ⟨k, hk, e⟩ => by rw [e]; exact hAX k hk
  have hAm : ∀ q, aM g q → s.heap.size ≤ q := fun q ⟨k, hk, e⟩ => by rw [e]; exact hAM k hk
  have hPXs : PX g u s H := ⟨hPX, hK, (hZ.kept hS.2.1).narrow (fun _ h => False.elim h)⟩
  obtain ⟨a1, ha1, ea1⟩ := iI_ex (xs (iI (i + 1)).toNatClampNeg)
  refine lv_aload_n hx hb dL_law_524 rfl (lv_at hl 1 rfl) ?_
  refine lv_aload_n hx hb dL_law_525 rfl (lv_at hl 0 rfl) ?_
  refine lv_iload_n hx hb dL_law_526 rfl (lv_at hl 3 rfl) ?_
  refine z_iconst hx hb dL_law_527 ?_
  refine z_iadd hx hb dL_law_528 ?_
  refine va_sld hx hb hX hbl hbA hS (iI_in (by omega) (by omega) (by omega)) dL_law_529 ?_
  rw [ea1]
  refine zVw_l (As := [.int (iI a1)]) (rest := []) ⟨hx, hb, hml, hown, hts⟩ (PY g u) (PY_blind g u) (PY_mv hPX hK) (rcX hK hPX) (c_X0_removeFix l g u hg a1 hI ha1) (cwV 1 hts gL_law_X0_removeFix rfl rfl rfl (by decide +kernel) ⟨Nat.le_of_ble_eq_true rfl, Nat.le_of_ble_eq_true rfl⟩) rfl hl.1 rfl (Nat.le_of_ble_eq_true rfl) dL_law_530 ⟨Nat.le_of_ble_eq_true rfl, Nat.le_of_ble_eq_true rfl⟩ hS hAx (fun H1 locs hPX hH1 hH2 hS => ?_)
  have hPM := keepM (s := s) hPM hXM hH2
  clear hPXs hH1 hH2
  refine lv_aload_n hx hb dL_law_533 rfl (lv_at hl 2 rfl) ?_
  refine lv_aload_n hx hb dL_law_534 rfl (lv_at hl 0 rfl) ?_
  refine lv_iload_n hx hb dL_law_535 rfl (lv_at hl 3 rfl) ?_
  refine z_iconst hx hb dL_law_536 ?_
  refine z_iadd hx hb dL_law_537 ?_
  refine va_sld hx hb hX hbl hbA hS (iI_in (by omega) (by omega) (by omega)) dL_law_538 ?_
  rw [ea1]
  refine zVw_l (As := [.int (iI a1)]) (rest := [.long (jI (rfR u a1))]) ⟨hx, hb, hml, hown, hts⟩ (PM g u v) (PM_blind g u v) (PM_mv hPM hK) (rcM hK hPM) (c_X1_removeFix l g u v hg a1 hI ha1) (cwV 1 hts gL_law_X1_removeFix rfl rfl rfl (by decide +kernel) ⟨Nat.le_of_ble_eq_true rfl, Nat.le_of_ble_eq_true rfl⟩) rfl hl.1 rfl (Nat.le_of_ble_eq_true rfl) dL_law_539 ⟨Nat.le_of_ble_eq_true rfl, Nat.le_of_ble_eq_true rfl⟩ hS hAm (fun H1 locs hPM hH1 hH2 hS => ?_)
  have hPX := keepX (s := s) hPX hXM hH2
  refine z_same (tgt := 750) hx hb dL_law_542 dL_law_543 (by decide) ?_
  refine z_iinc (k := 3) (lv' := [(3, .int (iI (i + 4))), (0, .ref b), (1, .ref (gX g 0)), (2, .ref (gM g 0))]) hx hb dL_law_750 hl rfl (by decide) rfl (fun ls hl => ?_)
  refine lv_goto (tgt := 18) hx hb dL_law_753 (by decide) ?_
  exact back _ _ _ _ ls (inv_rfU hI a1) hPX hPM hS (lv_sub hl [1, 2, 3, 0] rfl)
set_option maxHeartbeats 4000000 in
set_option maxRecDepth 100000 in
theorem lc_16 {p : Program} {l : Launch} {e : Env} {s : State} {m : MethodId} {below : List Frame} {meth : Method} {c : Code} {b L : Nat} {xs : Nat → Int32} {g : GG} (hL : L ≤ 2048) (C0 : lw_At p s m meth c b L xs) (G0 : LG g s) {i : Int} (hi : 0 ≤ i ∧ i + 4 ≤ L) {u : ST} {v : VT} {H : Heap} {locs : List Loc} {ls : Array Slot} (hI : Inv u) (hPX : va_P (gD g) vwCl (wX g u) H) (hPM : va_P (gD g) vwCl (wM g u v) H) (hS : va_S (fun q : Nat => s.heap.size ≤ q) s.heap H locs) (hl : lv_has ls 4 [(0, .ref b), (1, .ref (gX g 0)), (2, .ref (gM g 0)), (3, .int (iI i))])
    (back : ∀ (u2 : ST) (v2 : VT) (H2 : Heap) (locs2 : List Loc) (ls2 : Array Slot), Inv u2 → va_P (gD g) vwCl (wX g u2) H2 → va_P (gD g) vwCl (wM g u2 v2) H2 → va_S (fun q : Nat => s.heap.size ≤ q) s.heap H2 locs2 → lv_has ls2 4 [(0, .ref b), (1, .ref (gX g 0)), (2, .ref (gM g 0)), (3, .int (iI (i + 4)))] → W p l e room_1 s m #[Value.ref b] below meth c H2 locs2 18 731 (lw_Z below #[Value.ref b] s) (F0 m 18 ls2 [])) : W p l e room_1 s m #[Value.ref b] below meth c H locs 18 731 (lw_Z below #[Value.ref b] s) (F0 m 548 ls []) := by
  obtain ⟨hx, hb, hr, hml, hown, hts, hX, hbl, hlocks, hgv⟩ := C0
  have hts := fun w h => hts w (wsL_law_in w h)
  have hown : s.vm.findClass RL = some m.cls := hown
  obtain ⟨hg, hAX, hAM, hXM, hK, hZ⟩ := G0
  have hbA : ¬ (fun q : Nat => s.heap.size ≤ q) b := Nat.not_le.mpr hbl
  have hAx : ∀ q, aX g q → s.heap.size ≤ q := fun q ⟨k, hk, e⟩ => by rw [e]; exact hAX k hk
  have hAm : ∀ q, aM g q → s.heap.size ≤ q := fun q ⟨k, hk, e⟩ => by rw [e]; exact hAM k hk
  have hPXs : PX g u s H := ⟨hPX, hK, (hZ.kept hS.2.1).narrow (fun _ h => False.elim h)⟩
  obtain ⟨a1, ha1, ea1⟩ := iI_ex (xs (iI (i + 1)).toNatClampNeg)
  refine lv_aload_n hx hb dL_law_548 rfl (lv_at hl 1 rfl) ?_
  refine lv_aload_n hx hb dL_law_549 rfl (lv_at hl 0 rfl) ?_
  refine lv_iload_n hx hb dL_law_550 rfl (lv_at hl 3 rfl) ?_
  refine z_iconst hx hb dL_law_551 ?_
  refine z_iadd hx hb dL_law_552 ?_
  refine va_sld hx hb hX hbl hbA hS (iI_in (by omega) (by omega) (by omega)) dL_law_553 ?_
  rw [ea1]
  refine zV_l (As := [.int (iI a1)]) (rest := []) ⟨hx, hb, hml, hown, hts⟩ (PX g u) (PX_blind g u) (PX_mv hPXs) (rcX hK hPX) (c_X0_reckonedNorth l g u a1 hI ha1) (cwV 1 hts gL_law_X0_reckonedNorth rfl rfl rfl (by decide +kernel) ⟨Nat.le_of_ble_eq_true rfl, Nat.le_of_ble_eq_true rfl⟩) rfl hl.1 rfl (Nat.le_of_ble_eq_true rfl) dL_law_554 ⟨Nat.le_of_ble_eq_true rfl, Nat.le_of_ble_eq_true rfl⟩ ?_
  refine lv_aload_n hx hb dL_law_557 rfl (lv_at hl 2 rfl) ?_
  refine lv_aload_n hx hb dL_law_558 rfl (lv_at hl 0 rfl) ?_
  refine lv_iload_n hx hb dL_law_559 rfl (lv_at hl 3 rfl) ?_
  refine z_iconst hx hb dL_law_560 ?_
  refine z_iadd hx hb dL_law_561 ?_
  refine va_sld hx hb hX hbl hbA hS (iI_in (by omega) (by omega) (by omega)) dL_law_562 ?_
  rw [ea1]
  refine zV_l (As := [.int (iI a1)]) (rest := [.long (jI (rkR u 8 a1))]) ⟨hx, hb, hml, hown, hts⟩ (PM g u v) (PM_blind g u v) (PM_mv hPM hK) (rcM hK hPM) (c_X1_reckonedNorth l g u v a1 hI ha1) (cwV 1 hts gL_law_X1_reckonedNorth rfl rfl rfl (by decide +kernel) ⟨Nat.le_of_ble_eq_true rfl, Nat.le_of_ble_eq_true rfl⟩) rfl hl.1 rfl (Nat.le_of_ble_eq_true rfl) dL_law_563 ⟨Nat.le_of_ble_eq_true rfl, Nat.le_of_ble_eq_true rfl⟩ ?_
  refine z_same (tgt := 750) hx hb dL_law_566 dL_law_567 (by decide) ?_
  refine z_iinc (k := 3) (lv' := [(3, .int (iI (i + 4))), (0, .ref b), (1, .ref (gX g 0)), (2, .ref (gM g 0))]) hx hb dL_law_750 hl rfl (by decide) rfl (fun ls hl => ?_)
  refine lv_goto (tgt := 18) hx hb dL_law_753 (by decide) ?_
  exact back _ _ _ _ ls (hI) hPX hPM hS (lv_sub hl [1, 2, 3, 0] rfl)
set_option maxHeartbeats 4000000 in
set_option maxRecDepth 100000 in
theorem lc_17 {p : Program} {l : Launch} {e : Env} {s : State} {m : MethodId} {below : List Frame} {meth : Method} {c : Code} {b L : Nat} {xs : Nat → Int32} {g : GG} (hL : L ≤ 2048) (C0 : lw_At p s m meth c b L xs) (G0 : LG g s) {i : Int} (hi : 0 ≤ i ∧ i + 4 ≤ L) {u : ST} {v : VT} {H : Heap} {locs : List Loc} {ls : Array Slot} (hI : Inv u) (hPX : va_P (gD g) vwCl (wX g u) H) (hPM : va_P (gD g) vwCl (wM g u v) H) (hS : va_S (fun q : Nat => s.heap.size ≤ q) s.heap H locs) (hl : lv_has ls 4 [(0, .ref b), (1, .ref (gX g 0)), (2, .ref (gM g 0)), (3, .int (iI i))])
    (back : ∀ (u2 : ST) (v2 : VT) (H2 : Heap) (locs2 : List Loc) (ls2 : Array Slot), Inv u2 → va_P (gD g) vwCl (wX g u2) H2 → va_P (gD g) vwCl (wM g u2 v2) H2 → va_S (fun q : Nat => s.heap.size ≤ q) s.heap H2 locs2 → lv_has ls2 4 [(0, .ref b), (1, .ref (gX g 0)), (2, .ref (gM g 0)), (3, .int (iI (i + 4)))] → W p l e room_1 s m #[Value.ref b] below meth c H2 locs2 18 731 (lw_Z below #[Value.ref b] s) (F0 m 18 ls2 [])) : W p l e room_1 s m #[Value.ref b] below meth c H locs 18 731 (lw_Z below #[Value.ref b] s) (F0 m 572 ls []) := by
  obtain ⟨hx, hb, hr, hml, hown, hts, hX, hbl, hlocks, hgv⟩ := C0
  have hts := fun w h => hts w (wsL_law_in w h)
  have hown : s.vm.findClass RL = some m.cls := hown
  obtain ⟨hg, hAX, hAM, hXM, hK, hZ⟩ := G0
  have hbA : ¬ (fun q : Nat => s.heap.size ≤ q) b := Nat.not_le.mpr hbl
  have hAx : ∀ q, aX g q → s.heap.size ≤ q := fun q ⟨k, hk, e⟩ => by rw [e]; exact hAX k hk
  have hAm : ∀ q, aM g q → s.heap.size ≤ q := fun q ⟨k, hk, e⟩ => by rw [e]; exact hAM k hk
  have hPXs : PX g u s H := ⟨hPX, hK, (hZ.kept hS.2.1).narrow (fun _ h => False.elim h)⟩
  obtain ⟨a1, ha1, ea1⟩ := iI_ex (xs (iI (i + 1)).toNatClampNeg)
  refine lv_aload_n hx hb dL_law_572 rfl (lv_at hl 1 rfl) ?_
  refine lv_aload_n hx hb dL_law_573 rfl (lv_at hl 0 rfl) ?_
  refine lv_iload_n hx hb dL_law_574 rfl (lv_at hl 3 rfl) ?_
  refine z_iconst hx hb dL_law_575 ?_
  refine z_iadd hx hb dL_law_576 ?_
  refine va_sld hx hb hX hbl hbA hS (iI_in (by omega) (by omega) (by omega)) dL_law_577 ?_
  rw [ea1]
  refine zV_l (As := [.int (iI a1)]) (rest := []) ⟨hx, hb, hml, hown, hts⟩ (PX g u) (PX_blind g u) (PX_mv hPXs) (rcX hK hPX) (c_X0_reckonedEast l g u a1 hI ha1) (cwV 1 hts gL_law_X0_reckonedEast rfl rfl rfl (by decide +kernel) ⟨Nat.le_of_ble_eq_true rfl, Nat.le_of_ble_eq_true rfl⟩) rfl hl.1 rfl (Nat.le_of_ble_eq_true rfl) dL_law_578 ⟨Nat.le_of_ble_eq_true rfl, Nat.le_of_ble_eq_true rfl⟩ ?_
  refine lv_aload_n hx hb dL_law_581 rfl (lv_at hl 2 rfl) ?_
  refine lv_aload_n hx hb dL_law_582 rfl (lv_at hl 0 rfl) ?_
  refine lv_iload_n hx hb dL_law_583 rfl (lv_at hl 3 rfl) ?_
  refine z_iconst hx hb dL_law_584 ?_
  refine z_iadd hx hb dL_law_585 ?_
  refine va_sld hx hb hX hbl hbA hS (iI_in (by omega) (by omega) (by omega)) dL_law_586 ?_
  rw [ea1]
  refine zV_l (As := [.int (iI a1)]) (rest := [.long (jI (rkR u 0 a1))]) ⟨hx, hb, hml, hown, hts⟩ (PM g u v) (PM_blind g u v) (PM_mv hPM hK) (rcM hK hPM) (c_X1_reckonedEast l g u v a1 hI ha1) (cwV 1 hts gL_law_X1_reckonedEast rfl rfl rfl (by decide +kernel) ⟨Nat.le_of_ble_eq_true rfl, Nat.le_of_ble_eq_true rfl⟩) rfl hl.1 rfl (Nat.le_of_ble_eq_true rfl) dL_law_587 ⟨Nat.le_of_ble_eq_true rfl, Nat.le_of_ble_eq_true rfl⟩ ?_
  refine z_same (tgt := 750) hx hb dL_law_590 dL_law_591 (by decide) ?_
  refine z_iinc (k := 3) (lv' := [(3, .int (iI (i + 4))), (0, .ref b), (1, .ref (gX g 0)), (2, .ref (gM g 0))]) hx hb dL_law_750 hl rfl (by decide) rfl (fun ls hl => ?_)
  refine lv_goto (tgt := 18) hx hb dL_law_753 (by decide) ?_
  exact back _ _ _ _ ls (hI) hPX hPM hS (lv_sub hl [1, 2, 3, 0] rfl)
set_option maxHeartbeats 4000000 in
set_option maxRecDepth 100000 in
theorem lc_18 {p : Program} {l : Launch} {e : Env} {s : State} {m : MethodId} {below : List Frame} {meth : Method} {c : Code} {b L : Nat} {xs : Nat → Int32} {g : GG} (hL : L ≤ 2048) (C0 : lw_At p s m meth c b L xs) (G0 : LG g s) {i : Int} (hi : 0 ≤ i ∧ i + 4 ≤ L) {u : ST} {v : VT} {H : Heap} {locs : List Loc} {ls : Array Slot} (hI : Inv u) (hPX : va_P (gD g) vwCl (wX g u) H) (hPM : va_P (gD g) vwCl (wM g u v) H) (hS : va_S (fun q : Nat => s.heap.size ≤ q) s.heap H locs) (hl : lv_has ls 4 [(0, .ref b), (1, .ref (gX g 0)), (2, .ref (gM g 0)), (3, .int (iI i))])
    (back : ∀ (u2 : ST) (v2 : VT) (H2 : Heap) (locs2 : List Loc) (ls2 : Array Slot), Inv u2 → va_P (gD g) vwCl (wX g u2) H2 → va_P (gD g) vwCl (wM g u2 v2) H2 → va_S (fun q : Nat => s.heap.size ≤ q) s.heap H2 locs2 → lv_has ls2 4 [(0, .ref b), (1, .ref (gX g 0)), (2, .ref (gM g 0)), (3, .int (iI (i + 4)))] → W p l e room_1 s m #[Value.ref b] below meth c H2 locs2 18 731 (lw_Z below #[Value.ref b] s) (F0 m 18 ls2 [])) : W p l e room_1 s m #[Value.ref b] below meth c H locs 18 731 (lw_Z below #[Value.ref b] s) (F0 m 596 ls []) := by
  obtain ⟨hx, hb, hr, hml, hown, hts, hX, hbl, hlocks, hgv⟩ := C0
  have hts := fun w h => hts w (wsL_law_in w h)
  have hown : s.vm.findClass RL = some m.cls := hown
  obtain ⟨hg, hAX, hAM, hXM, hK, hZ⟩ := G0
  have hbA : ¬ (fun q : Nat => s.heap.size ≤ q) b := Nat.not_le.mpr hbl
  have hAx : ∀ q, aX g q → s.heap.size ≤ q := fun q ⟨k, hk, e⟩ => by rw [e]; exact hAX k hk
  have hAm : ∀ q, aM g q → s.heap.size ≤ q := fun q ⟨k, hk, e⟩ => by rw [e]; exact hAM k hk
  have hPXs : PX g u s H := ⟨hPX, hK, (hZ.kept hS.2.1).narrow (fun _ h => False.elim h)⟩
  obtain ⟨a1, ha1, ea1⟩ := iI_ex (xs (iI (i + 1)).toNatClampNeg)
  refine lv_aload_n hx hb dL_law_596 rfl (lv_at hl 1 rfl) ?_
  refine lv_aload_n hx hb dL_law_597 rfl (lv_at hl 0 rfl) ?_
  refine lv_iload_n hx hb dL_law_598 rfl (lv_at hl 3 rfl) ?_
  refine z_iconst hx hb dL_law_599 ?_
  refine z_iadd hx hb dL_law_600 ?_
  refine va_sld hx hb hX hbl hbA hS (iI_in (by omega) (by omega) (by omega)) dL_law_601 ?_
  rw [ea1]
  refine zV_l (As := [.int (iI a1)]) (rest := []) ⟨hx, hb, hml, hown, hts⟩ (PX g u) (PX_blind g u) (PX_mv hPXs) (rcX hK hPX) (c_X0_correctedNorth l g u a1 hI ha1) (cwV 1 hts gL_law_X0_correctedNorth rfl rfl rfl (by decide +kernel) ⟨Nat.le_of_ble_eq_true rfl, Nat.le_of_ble_eq_true rfl⟩) rfl hl.1 rfl (Nat.le_of_ble_eq_true rfl) dL_law_602 ⟨Nat.le_of_ble_eq_true rfl, Nat.le_of_ble_eq_true rfl⟩ ?_
  refine lv_aload_n hx hb dL_law_605 rfl (lv_at hl 2 rfl) ?_
  refine lv_aload_n hx hb dL_law_606 rfl (lv_at hl 0 rfl) ?_
  refine lv_iload_n hx hb dL_law_607 rfl (lv_at hl 3 rfl) ?_
  refine z_iconst hx hb dL_law_608 ?_
  refine z_iadd hx hb dL_law_609 ?_
  refine va_sld hx hb hX hbl hbA hS (iI_in (by omega) (by omega) (by omega)) dL_law_610 ?_
  rw [ea1]
  refine zV_l (As := [.int (iI a1)]) (rest := [.long (jI (coR u 8 a1))]) ⟨hx, hb, hml, hown, hts⟩ (PM g u v) (PM_blind g u v) (PM_mv hPM hK) (rcM hK hPM) (c_X1_correctedNorth l g u v a1 hI ha1) (cwV 1 hts gL_law_X1_correctedNorth rfl rfl rfl (by decide +kernel) ⟨Nat.le_of_ble_eq_true rfl, Nat.le_of_ble_eq_true rfl⟩) rfl hl.1 rfl (Nat.le_of_ble_eq_true rfl) dL_law_611 ⟨Nat.le_of_ble_eq_true rfl, Nat.le_of_ble_eq_true rfl⟩ ?_
  refine z_same (tgt := 750) hx hb dL_law_614 dL_law_615 (by decide) ?_
  refine z_iinc (k := 3) (lv' := [(3, .int (iI (i + 4))), (0, .ref b), (1, .ref (gX g 0)), (2, .ref (gM g 0))]) hx hb dL_law_750 hl rfl (by decide) rfl (fun ls hl => ?_)
  refine lv_goto (tgt := 18) hx hb dL_law_753 (by decide) ?_
  exact back _ _ _ _ ls (hI) hPX hPM hS (lv_sub hl [1, 2, 3, 0] rfl)
set_option maxHeartbeats 4000000 in
set_option maxRecDepth 100000 in
theorem lc_19 {p : Program} {l : Launch} {e : Env} {s : State} {m : MethodId} {below : List Frame} {meth : Method} {c : Code} {b L : Nat} {xs : Nat → Int32} {g : GG} (hL : L ≤ 2048) (C0 : lw_At p s m meth c b L xs) (G0 : LG g s) {i : Int} (hi : 0 ≤ i ∧ i + 4 ≤ L) {u : ST} {v : VT} {H : Heap} {locs : List Loc} {ls : Array Slot} (hI : Inv u) (hPX : va_P (gD g) vwCl (wX g u) H) (hPM : va_P (gD g) vwCl (wM g u v) H) (hS : va_S (fun q : Nat => s.heap.size ≤ q) s.heap H locs) (hl : lv_has ls 4 [(0, .ref b), (1, .ref (gX g 0)), (2, .ref (gM g 0)), (3, .int (iI i))])
    (back : ∀ (u2 : ST) (v2 : VT) (H2 : Heap) (locs2 : List Loc) (ls2 : Array Slot), Inv u2 → va_P (gD g) vwCl (wX g u2) H2 → va_P (gD g) vwCl (wM g u2 v2) H2 → va_S (fun q : Nat => s.heap.size ≤ q) s.heap H2 locs2 → lv_has ls2 4 [(0, .ref b), (1, .ref (gX g 0)), (2, .ref (gM g 0)), (3, .int (iI (i + 4)))] → W p l e room_1 s m #[Value.ref b] below meth c H2 locs2 18 731 (lw_Z below #[Value.ref b] s) (F0 m 18 ls2 [])) : W p l e room_1 s m #[Value.ref b] below meth c H locs 18 731 (lw_Z below #[Value.ref b] s) (F0 m 620 ls []) := by
  obtain ⟨hx, hb, hr, hml, hown, hts, hX, hbl, hlocks, hgv⟩ := C0
  have hts := fun w h => hts w (wsL_law_in w h)
  have hown : s.vm.findClass RL = some m.cls := hown
  obtain ⟨hg, hAX, hAM, hXM, hK, hZ⟩ := G0
  have hbA : ¬ (fun q : Nat => s.heap.size ≤ q) b := Nat.not_le.mpr hbl
  have hAx : ∀ q, aX g q → s.heap.size ≤ q := fun q ⟨k, hk, e⟩ => by rw [e]; exact hAX k hk
  have hAm : ∀ q, aM g q → s.heap.size ≤ q := fun q ⟨k, hk, e⟩ => by rw [e]; exact hAM k hk
  have hPXs : PX g u s H := ⟨hPX, hK, (hZ.kept hS.2.1).narrow (fun _ h => False.elim h)⟩
  obtain ⟨a1, ha1, ea1⟩ := iI_ex (xs (iI (i + 1)).toNatClampNeg)
  refine lv_aload_n hx hb dL_law_620 rfl (lv_at hl 1 rfl) ?_
  refine lv_aload_n hx hb dL_law_621 rfl (lv_at hl 0 rfl) ?_
  refine lv_iload_n hx hb dL_law_622 rfl (lv_at hl 3 rfl) ?_
  refine z_iconst hx hb dL_law_623 ?_
  refine z_iadd hx hb dL_law_624 ?_
  refine va_sld hx hb hX hbl hbA hS (iI_in (by omega) (by omega) (by omega)) dL_law_625 ?_
  rw [ea1]
  refine zV_l (As := [.int (iI a1)]) (rest := []) ⟨hx, hb, hml, hown, hts⟩ (PX g u) (PX_blind g u) (PX_mv hPXs) (rcX hK hPX) (c_X0_correctedEast l g u a1 hI ha1) (cwV 1 hts gL_law_X0_correctedEast rfl rfl rfl (by decide +kernel) ⟨Nat.le_of_ble_eq_true rfl, Nat.le_of_ble_eq_true rfl⟩) rfl hl.1 rfl (Nat.le_of_ble_eq_true rfl) dL_law_626 ⟨Nat.le_of_ble_eq_true rfl, Nat.le_of_ble_eq_true rfl⟩ ?_
  refine lv_aload_n hx hb dL_law_629 rfl (lv_at hl 2 rfl) ?_
  refine lv_aload_n hx hb dL_law_630 rfl (lv_at hl 0 rfl) ?_
  refine lv_iload_n hx hb dL_law_631 rfl (lv_at hl 3 rfl) ?_
  refine z_iconst hx hb dL_law_632 ?_
  refine z_iadd hx hb dL_law_633 ?_
  refine va_sld hx hb hX hbl hbA hS (iI_in (by omega) (by omega) (by omega)) dL_law_634 ?_
  rw [ea1]
  refine zV_l (As := [.int (iI a1)]) (rest := [.long (jI (coR u 0 a1))]) ⟨hx, hb, hml, hown, hts⟩ (PM g u v) (PM_blind g u v) (PM_mv hPM hK) (rcM hK hPM) (c_X1_correctedEast l g u v a1 hI ha1) (cwV 1 hts gL_law_X1_correctedEast rfl rfl rfl (by decide +kernel) ⟨Nat.le_of_ble_eq_true rfl, Nat.le_of_ble_eq_true rfl⟩) rfl hl.1 rfl (Nat.le_of_ble_eq_true rfl) dL_law_635 ⟨Nat.le_of_ble_eq_true rfl, Nat.le_of_ble_eq_true rfl⟩ ?_
  refine z_same (tgt := 750) hx hb dL_law_638 dL_law_639 (by decide) ?_
  refine z_iinc (k := 3) (lv' := [(3, .int (iI (i + 4))), (0, .ref b), (1, .ref (gX g 0)), (2, .ref (gM g 0))]) hx hb dL_law_750 hl rfl (by decide) rfl (fun ls hl => ?_)
  refine lv_goto (tgt := 18) hx hb dL_law_753 (by decide) ?_
  exact back _ _ _ _ ls (hI) hPX hPM hS (lv_sub hl [1, 2, 3, 0] rfl)
set_option maxHeartbeats 4000000 in
set_option maxRecDepth 100000 in
theorem lc_20 {p : Program} {l : Launch} {e : Env} {s : State} {m : MethodId} {below : List Frame} {meth : Method} {c : Code} {b L : Nat} {xs : Nat → Int32} {g : GG} (hL : L ≤ 2048) (C0 : lw_At p s m meth c b L xs) (G0 : LG g s) {i : Int} (hi : 0 ≤ i ∧ i + 4 ≤ L) {u : ST} {v : VT} {H : Heap} {locs : List Loc} {ls : Array Slot} (hI : Inv u) (hPX : va_P (gD g) vwCl (wX g u) H) (hPM : va_P (gD g) vwCl (wM g u v) H) (hS : va_S (fun q : Nat => s.heap.size ≤ q) s.heap H locs) (hl : lv_has ls 4 [(0, .ref b), (1, .ref (gX g 0)), (2, .ref (gM g 0)), (3, .int (iI i))])
    (back : ∀ (u2 : ST) (v2 : VT) (H2 : Heap) (locs2 : List Loc) (ls2 : Array Slot), Inv u2 → va_P (gD g) vwCl (wX g u2) H2 → va_P (gD g) vwCl (wM g u2 v2) H2 → va_S (fun q : Nat => s.heap.size ≤ q) s.heap H2 locs2 → lv_has ls2 4 [(0, .ref b), (1, .ref (gX g 0)), (2, .ref (gM g 0)), (3, .int (iI (i + 4)))] → W p l e room_1 s m #[Value.ref b] below meth c H2 locs2 18 731 (lw_Z below #[Value.ref b] s) (F0 m 18 ls2 [])) : W p l e room_1 s m #[Value.ref b] below meth c H locs 18 731 (lw_Z below #[Value.ref b] s) (F0 m 644 ls []) := by
  obtain ⟨hx, hb, hr, hml, hown, hts, hX, hbl, hlocks, hgv⟩ := C0
  have hts := fun w h => hts w (wsL_law_in w h)
  have hown : s.vm.findClass RL = some m.cls := hown
  obtain ⟨hg, hAX, hAM, hXM, hK, hZ⟩ := G0
  have hbA : ¬ (fun q : Nat => s.heap.size ≤ q) b := Nat.not_le.mpr hbl
  have hAx : ∀ q, aX g q → s.heap.size ≤ q := fun q ⟨k, hk, e⟩ => by rw [e]; exact hAX k hk
  have hAm : ∀ q, aM g q → s.heap.size ≤ q := fun q ⟨k, hk, e⟩ => by rw [e]; exact hAM k hk
  have hPXs : PX g u s H := ⟨hPX, hK, (hZ.kept hS.2.1).narrow (fun _ h => False.elim h)⟩
  obtain ⟨a1, ha1, ea1⟩ := iI_ex (xs (iI (i + 1)).toNatClampNeg)
  obtain ⟨a2, ha2, ea2⟩ := iI_ex (xs (iI (i + 2)).toNatClampNeg)
  refine lv_aload_n hx hb dL_law_644 rfl (lv_at hl 1 rfl) ?_
  refine lv_aload_n hx hb dL_law_645 rfl (lv_at hl 0 rfl) ?_
  refine lv_iload_n hx hb dL_law_646 rfl (lv_at hl 3 rfl) ?_
  refine z_iconst hx hb dL_law_647 ?_
  refine z_iadd hx hb dL_law_648 ?_
  refine va_sld hx hb hX hbl hbA hS (iI_in (by omega) (by omega) (by omega)) dL_law_649 ?_
  rw [ea1]
  refine lv_aload_n hx hb dL_law_650 rfl (lv_at hl 0 rfl) ?_
  refine lv_iload_n hx hb dL_law_651 rfl (lv_at hl 3 rfl) ?_
  refine z_iconst hx hb dL_law_652 ?_
  refine z_iadd hx hb dL_law_653 ?_
  refine va_sld hx hb hX hbl hbA hS (iI_in (by omega) (by omega) (by omega)) dL_law_654 ?_
  rw [ea2]
  refine zV_l (As := [.int (iI a1), .int (iI a2)]) (rest := []) ⟨hx, hb, hml, hown, hts⟩ (PX g u) (PX_blind g u) (PX_mv hPXs) (rcX hK hPX) (c_X0_distance l g u a1 a2 hI ha1 ha2) (cwV 2 hts gL_law_X0_distance rfl rfl rfl (by decide +kernel) ⟨Nat.le_of_ble_eq_true rfl, Nat.le_of_ble_eq_true rfl⟩) rfl hl.1 rfl (Nat.le_of_ble_eq_true rfl) dL_law_655 ⟨Nat.le_of_ble_eq_true rfl, Nat.le_of_ble_eq_true rfl⟩ ?_
  refine lv_aload_n hx hb dL_law_658 rfl (lv_at hl 2 rfl) ?_
  refine lv_aload_n hx hb dL_law_659 rfl (lv_at hl 0 rfl) ?_
  refine lv_iload_n hx hb dL_law_660 rfl (lv_at hl 3 rfl) ?_
  refine z_iconst hx hb dL_law_661 ?_
  refine z_iadd hx hb dL_law_662 ?_
  refine va_sld hx hb hX hbl hbA hS (iI_in (by omega) (by omega) (by omega)) dL_law_663 ?_
  rw [ea1]
  refine lv_aload_n hx hb dL_law_664 rfl (lv_at hl 0 rfl) ?_
  refine lv_iload_n hx hb dL_law_665 rfl (lv_at hl 3 rfl) ?_
  refine z_iconst hx hb dL_law_666 ?_
  refine z_iadd hx hb dL_law_667 ?_
  refine va_sld hx hb hX hbl hbA hS (iI_in (by omega) (by omega) (by omega)) dL_law_668 ?_
  rw [ea2]
  refine zV_l (As := [.int (iI a1), .int (iI a2)]) (rest := [.long (jI (diR u a1 a2))]) ⟨hx, hb, hml, hown, hts⟩ (PM g u v) (PM_blind g u v) (PM_mv hPM hK) (rcM hK hPM) (c_X1_distance l g u v a1 a2 hI ha1 ha2) (cwV 2 hts gL_law_X1_distance rfl rfl rfl (by decide +kernel) ⟨Nat.le_of_ble_eq_true rfl, Nat.le_of_ble_eq_true rfl⟩) rfl hl.1 rfl (Nat.le_of_ble_eq_true rfl) dL_law_669 ⟨Nat.le_of_ble_eq_true rfl, Nat.le_of_ble_eq_true rfl⟩ ?_
  refine z_same (tgt := 750) hx hb dL_law_672 dL_law_673 (by decide) ?_
  refine z_iinc (k := 3) (lv' := [(3, .int (iI (i + 4))), (0, .ref b), (1, .ref (gX g 0)), (2, .ref (gM g 0))]) hx hb dL_law_750 hl rfl (by decide) rfl (fun ls hl => ?_)
  refine lv_goto (tgt := 18) hx hb dL_law_753 (by decide) ?_
  exact back _ _ _ _ ls (hI) hPX hPM hS (lv_sub hl [1, 2, 3, 0] rfl)
set_option maxHeartbeats 4000000 in
set_option maxRecDepth 100000 in
theorem lc_21 {p : Program} {l : Launch} {e : Env} {s : State} {m : MethodId} {below : List Frame} {meth : Method} {c : Code} {b L : Nat} {xs : Nat → Int32} {g : GG} (hL : L ≤ 2048) (C0 : lw_At p s m meth c b L xs) (G0 : LG g s) {i : Int} (hi : 0 ≤ i ∧ i + 4 ≤ L) {u : ST} {v : VT} {H : Heap} {locs : List Loc} {ls : Array Slot} (hI : Inv u) (hPX : va_P (gD g) vwCl (wX g u) H) (hPM : va_P (gD g) vwCl (wM g u v) H) (hS : va_S (fun q : Nat => s.heap.size ≤ q) s.heap H locs) (hl : lv_has ls 4 [(0, .ref b), (1, .ref (gX g 0)), (2, .ref (gM g 0)), (3, .int (iI i))])
    (back : ∀ (u2 : ST) (v2 : VT) (H2 : Heap) (locs2 : List Loc) (ls2 : Array Slot), Inv u2 → va_P (gD g) vwCl (wX g u2) H2 → va_P (gD g) vwCl (wM g u2 v2) H2 → va_S (fun q : Nat => s.heap.size ≤ q) s.heap H2 locs2 → lv_has ls2 4 [(0, .ref b), (1, .ref (gX g 0)), (2, .ref (gM g 0)), (3, .int (iI (i + 4)))] → W p l e room_1 s m #[Value.ref b] below meth c H2 locs2 18 731 (lw_Z below #[Value.ref b] s) (F0 m 18 ls2 [])) : W p l e room_1 s m #[Value.ref b] below meth c H locs 18 731 (lw_Z below #[Value.ref b] s) (F0 m 678 ls []) := by
  obtain ⟨hx, hb, hr, hml, hown, hts, hX, hbl, hlocks, hgv⟩ := C0
  have hts := fun w h => hts w (wsL_law_in w h)
  have hown : s.vm.findClass RL = some m.cls := hown
  obtain ⟨hg, hAX, hAM, hXM, hK, hZ⟩ := G0
  have hbA : ¬ (fun q : Nat => s.heap.size ≤ q) b := Nat.not_le.mpr hbl
  have hAx : ∀ q, aX g q → s.heap.size ≤ q := fun q ⟨k, hk, e⟩ => by rw [e]; exact hAX k hk
  have hAm : ∀ q, aM g q → s.heap.size ≤ q := fun q ⟨k, hk, e⟩ => by rw [e]; exact hAM k hk
  have hPXs : PX g u s H := ⟨hPX, hK, (hZ.kept hS.2.1).narrow (fun _ h => False.elim h)⟩
  obtain ⟨a1, ha1, ea1⟩ := iI_ex (xs (iI (i + 1)).toNatClampNeg)
  obtain ⟨a2, ha2, ea2⟩ := iI_ex (xs (iI (i + 2)).toNatClampNeg)
  refine lv_aload_n hx hb dL_law_678 rfl (lv_at hl 1 rfl) ?_
  refine lv_aload_n hx hb dL_law_679 rfl (lv_at hl 0 rfl) ?_
  refine lv_iload_n hx hb dL_law_680 rfl (lv_at hl 3 rfl) ?_
  refine z_iconst hx hb dL_law_681 ?_
  refine z_iadd hx hb dL_law_682 ?_
  refine va_sld hx hb hX hbl hbA hS (iI_in (by omega) (by omega) (by omega)) dL_law_683 ?_
  rw [ea1]
  refine lv_aload_n hx hb dL_law_684 rfl (lv_at hl 0 rfl) ?_
  refine lv_iload_n hx hb dL_law_685 rfl (lv_at hl 3 rfl) ?_
  refine z_iconst hx hb dL_law_686 ?_
  refine z_iadd hx hb dL_law_687 ?_
  refine va_sld hx hb hX hbl hbA hS (iI_in (by omega) (by omega) (by omega)) dL_law_688 ?_
  rw [ea2]
  refine zV_l (As := [.int (iI a1), .int (iI a2)]) (rest := []) ⟨hx, hb, hml, hown, hts⟩ (PX g u) (PX_blind g u) (PX_mv hPXs) (rcX hK hPX) (c_X0_bearing l g u a1 a2 hI ha1 ha2) (cwV 2 hts gL_law_X0_bearing rfl rfl rfl (by decide +kernel) ⟨Nat.le_of_ble_eq_true rfl, Nat.le_of_ble_eq_true rfl⟩) rfl hl.1 rfl (Nat.le_of_ble_eq_true rfl) dL_law_689 ⟨Nat.le_of_ble_eq_true rfl, Nat.le_of_ble_eq_true rfl⟩ ?_
  refine lv_aload_n hx hb dL_law_692 rfl (lv_at hl 2 rfl) ?_
  refine lv_aload_n hx hb dL_law_693 rfl (lv_at hl 0 rfl) ?_
  refine lv_iload_n hx hb dL_law_694 rfl (lv_at hl 3 rfl) ?_
  refine z_iconst hx hb dL_law_695 ?_
  refine z_iadd hx hb dL_law_696 ?_
  refine va_sld hx hb hX hbl hbA hS (iI_in (by omega) (by omega) (by omega)) dL_law_697 ?_
  rw [ea1]
  refine lv_aload_n hx hb dL_law_698 rfl (lv_at hl 0 rfl) ?_
  refine lv_iload_n hx hb dL_law_699 rfl (lv_at hl 3 rfl) ?_
  refine z_iconst hx hb dL_law_700 ?_
  refine z_iadd hx hb dL_law_701 ?_
  refine va_sld hx hb hX hbl hbA hS (iI_in (by omega) (by omega) (by omega)) dL_law_702 ?_
  rw [ea2]
  refine zV_l (As := [.int (iI a1), .int (iI a2)]) (rest := [.long (jI (brR u a1 a2))]) ⟨hx, hb, hml, hown, hts⟩ (PM g u v) (PM_blind g u v) (PM_mv hPM hK) (rcM hK hPM) (c_X1_bearing l g u v a1 a2 hI ha1 ha2) (cwV 2 hts gL_law_X1_bearing rfl rfl rfl (by decide +kernel) ⟨Nat.le_of_ble_eq_true rfl, Nat.le_of_ble_eq_true rfl⟩) rfl hl.1 rfl (Nat.le_of_ble_eq_true rfl) dL_law_703 ⟨Nat.le_of_ble_eq_true rfl, Nat.le_of_ble_eq_true rfl⟩ ?_
  refine z_same (tgt := 750) hx hb dL_law_706 dL_law_707 (by decide) ?_
  refine z_iinc (k := 3) (lv' := [(3, .int (iI (i + 4))), (0, .ref b), (1, .ref (gX g 0)), (2, .ref (gM g 0))]) hx hb dL_law_750 hl rfl (by decide) rfl (fun ls hl => ?_)
  refine lv_goto (tgt := 18) hx hb dL_law_753 (by decide) ?_
  exact back _ _ _ _ ls (hI) hPX hPM hS (lv_sub hl [1, 2, 3, 0] rfl)
set_option maxHeartbeats 4000000 in
set_option maxRecDepth 100000 in
theorem lc_22 {p : Program} {l : Launch} {e : Env} {s : State} {m : MethodId} {below : List Frame} {meth : Method} {c : Code} {b L : Nat} {xs : Nat → Int32} {g : GG} (hL : L ≤ 2048) (C0 : lw_At p s m meth c b L xs) (G0 : LG g s) {i : Int} (hi : 0 ≤ i ∧ i + 4 ≤ L) {u : ST} {v : VT} {H : Heap} {locs : List Loc} {ls : Array Slot} (hI : Inv u) (hPX : va_P (gD g) vwCl (wX g u) H) (hPM : va_P (gD g) vwCl (wM g u v) H) (hS : va_S (fun q : Nat => s.heap.size ≤ q) s.heap H locs) (hl : lv_has ls 4 [(0, .ref b), (1, .ref (gX g 0)), (2, .ref (gM g 0)), (3, .int (iI i))])
    (back : ∀ (u2 : ST) (v2 : VT) (H2 : Heap) (locs2 : List Loc) (ls2 : Array Slot), Inv u2 → va_P (gD g) vwCl (wX g u2) H2 → va_P (gD g) vwCl (wM g u2 v2) H2 → va_S (fun q : Nat => s.heap.size ≤ q) s.heap H2 locs2 → lv_has ls2 4 [(0, .ref b), (1, .ref (gX g 0)), (2, .ref (gM g 0)), (3, .int (iI (i + 4)))] → W p l e room_1 s m #[Value.ref b] below meth c H2 locs2 18 731 (lw_Z below #[Value.ref b] s) (F0 m 18 ls2 [])) : W p l e room_1 s m #[Value.ref b] below meth c H locs 18 731 (lw_Z below #[Value.ref b] s) (F0 m 712 ls []) := by
  obtain ⟨hx, hb, hr, hml, hown, hts, hX, hbl, hlocks, hgv⟩ := C0
  have hts := fun w h => hts w (wsL_law_in w h)
  have hown : s.vm.findClass RL = some m.cls := hown
  obtain ⟨hg, hAX, hAM, hXM, hK, hZ⟩ := G0
  have hbA : ¬ (fun q : Nat => s.heap.size ≤ q) b := Nat.not_le.mpr hbl
  have hAx : ∀ q, aX g q → s.heap.size ≤ q := fun q ⟨k, hk, e⟩ => by rw [e]; exact hAX k hk
  have hAm : ∀ q, aM g q → s.heap.size ≤ q := fun q ⟨k, hk, e⟩ => by rw [e]; exact hAM k hk
  have hPXs : PX g u s H := ⟨hPX, hK, (hZ.kept hS.2.1).narrow (fun _ h => False.elim h)⟩
  obtain ⟨a1, ha1, ea1⟩ := iI_ex (xs (iI (i + 1)).toNatClampNeg)
  refine lv_aload_n hx hb dL_law_712 rfl (lv_at hl 1 rfl) ?_
  refine lv_aload_n hx hb dL_law_713 rfl (lv_at hl 0 rfl) ?_
  refine lv_iload_n hx hb dL_law_714 rfl (lv_at hl 3 rfl) ?_
  refine z_iconst hx hb dL_law_715 ?_
  refine z_iadd hx hb dL_law_716 ?_
  refine va_sld hx hb hX hbl hbA hS (iI_in (by omega) (by omega) (by omega)) dL_law_717 ?_
  rw [ea1]
  refine zV_l (As := [.int (iI a1)]) (rest := []) ⟨hx, hb, hml, hown, hts⟩ (PX g u) (PX_blind g u) (PX_mv hPXs) (rcX hK hPX) (c_X0_findLost l g u a1 hI ha1) (cwV 1 hts gL_law_X0_findLost rfl rfl rfl (by decide +kernel) ⟨Nat.le_of_ble_eq_true rfl, Nat.le_of_ble_eq_true rfl⟩) rfl hl.1 rfl (Nat.le_of_ble_eq_true rfl) dL_law_718 ⟨Nat.le_of_ble_eq_true rfl, Nat.le_of_ble_eq_true rfl⟩ ?_
  refine lv_aload_n hx hb dL_law_721 rfl (lv_at hl 2 rfl) ?_
  refine lv_aload_n hx hb dL_law_722 rfl (lv_at hl 0 rfl) ?_
  refine lv_iload_n hx hb dL_law_723 rfl (lv_at hl 3 rfl) ?_
  refine z_iconst hx hb dL_law_724 ?_
  refine z_iadd hx hb dL_law_725 ?_
  refine va_sld hx hb hX hbl hbA hS (iI_in (by omega) (by omega) (by omega)) dL_law_726 ?_
  rw [ea1]
  refine zV_l (As := [.int (iI a1)]) (rest := [.long (jI (fdR u a1))]) ⟨hx, hb, hml, hown, hts⟩ (PM g u v) (PM_blind g u v) (PM_mv hPM hK) (rcM hK hPM) (c_X1_findLost l g u v a1 hI ha1) (cwV 1 hts gL_law_X1_findLost rfl rfl rfl (by decide +kernel) ⟨Nat.le_of_ble_eq_true rfl, Nat.le_of_ble_eq_true rfl⟩) rfl hl.1 rfl (Nat.le_of_ble_eq_true rfl) dL_law_727 ⟨Nat.le_of_ble_eq_true rfl, Nat.le_of_ble_eq_true rfl⟩ ?_
  refine z_same (tgt := 750) hx hb dL_law_730 dL_law_731 (by decide) ?_
  refine z_iinc (k := 3) (lv' := [(3, .int (iI (i + 4))), (0, .ref b), (1, .ref (gX g 0)), (2, .ref (gM g 0))]) hx hb dL_law_750 hl rfl (by decide) rfl (fun ls hl => ?_)
  refine lv_goto (tgt := 18) hx hb dL_law_753 (by decide) ?_
  exact back _ _ _ _ ls (hI) hPX hPM hS (lv_sub hl [1, 2, 3, 0] rfl)
set_option maxHeartbeats 4000000 in
set_option maxRecDepth 100000 in
theorem lc_23 {p : Program} {l : Launch} {e : Env} {s : State} {m : MethodId} {below : List Frame} {meth : Method} {c : Code} {b L : Nat} {xs : Nat → Int32} {g : GG} (hL : L ≤ 2048) (C0 : lw_At p s m meth c b L xs) (G0 : LG g s) {i : Int} (hi : 0 ≤ i ∧ i + 4 ≤ L) {u : ST} {v : VT} {H : Heap} {locs : List Loc} {ls : Array Slot} (hI : Inv u) (hPX : va_P (gD g) vwCl (wX g u) H) (hPM : va_P (gD g) vwCl (wM g u v) H) (hS : va_S (fun q : Nat => s.heap.size ≤ q) s.heap H locs) (hl : lv_has ls 4 [(0, .ref b), (1, .ref (gX g 0)), (2, .ref (gM g 0)), (3, .int (iI i))])
    (back : ∀ (u2 : ST) (v2 : VT) (H2 : Heap) (locs2 : List Loc) (ls2 : Array Slot), Inv u2 → va_P (gD g) vwCl (wX g u2) H2 → va_P (gD g) vwCl (wM g u2 v2) H2 → va_S (fun q : Nat => s.heap.size ≤ q) s.heap H2 locs2 → lv_has ls2 4 [(0, .ref b), (1, .ref (gX g 0)), (2, .ref (gM g 0)), (3, .int (iI (i + 4)))] → W p l e room_1 s m #[Value.ref b] below meth c H2 locs2 18 731 (lw_Z below #[Value.ref b] s) (F0 m 18 ls2 [])) : W p l e room_1 s m #[Value.ref b] below meth c H locs 18 731 (lw_Z below #[Value.ref b] s) (F0 m 736 ls []) := by
  obtain ⟨hx, hb, hr, hml, hown, hts, hX, hbl, hlocks, hgv⟩ := C0
  have hts := fun w h => hts w (wsL_law_in w h)
  have hown : s.vm.findClass RL = some m.cls := hown
  obtain ⟨hg, hAX, hAM, hXM, hK, hZ⟩ := G0
  have hbA : ¬ (fun q : Nat => s.heap.size ≤ q) b := Nat.not_le.mpr hbl
  have hAx : ∀ q, aX g q → s.heap.size ≤ q := fun q ⟨k, hk, e⟩ => by rw [e]; exact hAX k hk
  have hAm : ∀ q, aM g q → s.heap.size ≤ q := fun q ⟨k, hk, e⟩ => by rw [e]; exact hAM k hk
  have hPXs : PX g u s H := ⟨hPX, hK, (hZ.kept hS.2.1).narrow (fun _ h => False.elim h)⟩
  refine lv_aload_n hx hb dL_law_736 rfl (lv_at hl 1 rfl) ?_
  refine zV_l (As := []) (rest := []) ⟨hx, hb, hml, hown, hts⟩ (PX g u) (PX_blind g u) (PX_mv hPXs) (rcX hK hPX) (c_X0_digest l g u hI) (cwV 0 hts gL_law_X0_digest rfl rfl rfl (by decide +kernel) ⟨Nat.le_of_ble_eq_true rfl, Nat.le_of_ble_eq_true rfl⟩) rfl hl.1 rfl (Nat.le_of_ble_eq_true rfl) dL_law_737 ⟨Nat.le_of_ble_eq_true rfl, Nat.le_of_ble_eq_true rfl⟩ ?_
  refine lv_aload_n hx hb dL_law_740 rfl (lv_at hl 2 rfl) ?_
  refine zVw_l (As := []) (rest := [.long (jI (dig u))]) ⟨hx, hb, hml, hown, hts⟩ (PM g u v) (PM_blind g u v) (PM_mv hPM hK) (rcM hK hPM) (c_X1_digest l g u v hg hI) (cwV 0 hts gL_law_X1_digest rfl rfl rfl (by decide +kernel) ⟨Nat.le_of_ble_eq_true rfl, Nat.le_of_ble_eq_true rfl⟩) rfl hl.1 rfl (Nat.le_of_ble_eq_true rfl) dL_law_741 ⟨Nat.le_of_ble_eq_true rfl, Nat.le_of_ble_eq_true rfl⟩ hS hAm (fun H1 locs hPM hH1 hH2 hS => ?_)
  have hPX := keepX (s := s) hPX hXM hH2
  refine z_same (tgt := 750) hx hb dL_law_744 dL_law_745 (by decide) ?_
  refine z_iinc (k := 3) (lv' := [(3, .int (iI (i + 4))), (0, .ref b), (1, .ref (gX g 0)), (2, .ref (gM g 0))]) hx hb dL_law_750 hl rfl (by decide) rfl (fun ls hl => ?_)
  refine lv_goto (tgt := 18) hx hb dL_law_753 (by decide) ?_
  exact back _ _ _ _ ls (hI) hPX hPM hS (lv_sub hl [1, 2, 3, 0] rfl)
set_option maxHeartbeats 4000000 in
set_option maxRecDepth 100000 in
theorem lc_d {p : Program} {l : Launch} {e : Env} {s : State} {m : MethodId} {below : List Frame} {meth : Method} {c : Code} {b L : Nat} {xs : Nat → Int32} {g : GG} (hL : L ≤ 2048) (C0 : lw_At p s m meth c b L xs) (G0 : LG g s) {i : Int} (hi : 0 ≤ i ∧ i + 4 ≤ L) {u : ST} {v : VT} {H : Heap} {locs : List Loc} {ls : Array Slot} (hI : Inv u) (hPX : va_P (gD g) vwCl (wX g u) H) (hPM : va_P (gD g) vwCl (wM g u v) H) (hS : va_S (fun q : Nat => s.heap.size ≤ q) s.heap H locs) (hl : lv_has ls 4 [(0, .ref b), (1, .ref (gX g 0)), (2, .ref (gM g 0)), (3, .int (iI i))])
    (back : ∀ (u2 : ST) (v2 : VT) (H2 : Heap) (locs2 : List Loc) (ls2 : Array Slot), Inv u2 → va_P (gD g) vwCl (wX g u2) H2 → va_P (gD g) vwCl (wM g u2 v2) H2 → va_S (fun q : Nat => s.heap.size ≤ q) s.heap H2 locs2 → lv_has ls2 4 [(0, .ref b), (1, .ref (gX g 0)), (2, .ref (gM g 0)), (3, .int (iI (i + 4)))] → W p l e room_1 s m #[Value.ref b] below meth c H2 locs2 18 731 (lw_Z below #[Value.ref b] s) (F0 m 18 ls2 [])) : W p l e room_1 s m #[Value.ref b] below meth c H locs 18 731 (lw_Z below #[Value.ref b] s) (F0 m 750 ls []) := by
  obtain ⟨hx, hb, hr, hml, hown, hts, hX, hbl, hlocks, hgv⟩ := C0
  have hts := fun w h => hts w (wsL_law_in w h)
  have hown : s.vm.findClass RL = some m.cls := hown
  obtain ⟨hg, hAX, hAM, hXM, hK, hZ⟩ := G0
  have hbA : ¬ (fun q : Nat => s.heap.size ≤ q) b := Nat.not_le.mpr hbl
  have hAx : ∀ q, aX g q → s.heap.size ≤ q := fun q ⟨k, hk, e⟩ => by rw [e]; exact hAX k hk
  have hAm : ∀ q, aM g q → s.heap.size ≤ q := fun q ⟨k, hk, e⟩ => by rw [e]; exact hAM k hk
  have hPXs : PX g u s H := ⟨hPX, hK, (hZ.kept hS.2.1).narrow (fun _ h => False.elim h)⟩
  refine z_iinc (k := 3) (lv' := [(3, .int (iI (i + 4))), (0, .ref b), (1, .ref (gX g 0)), (2, .ref (gM g 0))]) hx hb dL_law_750 hl rfl (by decide) rfl (fun ls hl => ?_)
  refine lv_goto (tgt := 18) hx hb dL_law_753 (by decide) ?_
  exact back _ _ _ _ ls hI hPX hPM hS (lv_sub hl [1, 2, 3, 0] rfl)
set_option maxHeartbeats 4000000 in
set_option maxRecDepth 100000 in
theorem law_loop {p : Program} {l : Launch} {e : Env} {s : State} {m : MethodId} {below : List Frame} {meth : Method} {c : Code} {b L : Nat} {xs : Nat → Int32} {g : GG} (hL : L ≤ 2048) (C0 : lw_At p s m meth c b L xs) (G0 : LG g s) : ∀ (n : Nat) (i : Int) (u : ST) (v : VT) (H : Heap) (locs : List Loc) (ls : Array Slot), 0 ≤ i → i ≤ 4096 → ((L : Int) - i).toNat < n → Inv u → va_P (gD g) vwCl (wX g u) H → va_P (gD g) vwCl (wM g u v) H → va_S (fun q : Nat => s.heap.size ≤ q) s.heap H locs → lv_has ls 4 [(0, .ref b), (1, .ref (gX g 0)), (2, .ref (gM g 0)), (3, .int (iI i))] → W p l e room_1 s m #[Value.ref b] below meth c H locs 18 731 (lw_Z below #[Value.ref b] s) (F0 m 18 ls []) := by
  obtain ⟨hx, hb, hr, hml, hown, hts, hX, hbl, hlocks, hgv⟩ := id C0
  have hbA : ¬ (fun q : Nat => s.heap.size ≤ q) b := Nat.not_le.mpr hbl
  intro n
  induction n with
  | zero => intro i u v H locs ls h0 h1 h2; exact absurd h2 (Nat.not_lt_zero _)
  | succ n ih =>
    intro i u v H locs ls h0 h1 h2 hI hPX hPM hS hl
    refine lv_iload_n hx hb dL_law_18 rfl (lv_at hl 3 rfl) ?_
    refine lv_aload_n hx hb dL_law_19 rfl (lv_at hl 0 rfl) ?_
    refine va_slen hx hb hX hbl hbA hS dL_law_20 ?_
    rw [show Int32.ofNat L = iI (L : Int) from Int32.ofInt_eq_ofNat.symm]
    refine z_iconst hx hb dL_law_21 ?_
    refine z_isub hx hb dL_law_22 ?_
    refine z_icmp_gt (tgt := 756) hx hb dL_law_23 (by decide) (by omega) (by omega) (fun c_1 => ?_) (fun c_1 => ?_)
    · refine lv_iconst (v := 1) hx hb dL_law_756 rfl ?_
      refine va_forget (fun q hq => hS.2.2 q hq) ?_
      exact lw_ret hx hb hr hlocks dL_law_757
    · refine lv_aload_n hx hb dL_law_26 rfl (lv_at hl 0 rfl) ?_
      refine lv_iload_n hx hb dL_law_27 rfl (lv_at hl 3 rfl) ?_
      refine va_sld hx hb hX hbl hbA hS (iI_in (by omega) (by omega) (by omega)) dL_law_28 ?_
      refine lv_bipush (v := 31) hx hb dL_law_29 (by decide +kernel) ?_
      refine lv_iand hx hb dL_law_31 ?_
      obtain ⟨j, hj, ej⟩ := pk_andE (xs (iI i).toNatClampNeg) (m := 31) 5 (by decide +kernel)
      rw [ej]
      have hj : j < 32 := hj
      have back : ∀ (u2 : ST) (v2 : VT) (H2 : Heap) (locs2 : List Loc) (ls2 : Array Slot), Inv u2 → va_P (gD g) vwCl (wX g u2) H2 → va_P (gD g) vwCl (wM g u2 v2) H2 → va_S (fun q : Nat => s.heap.size ≤ q) s.heap H2 locs2 → lv_has ls2 4 [(0, .ref b), (1, .ref (gX g 0)), (2, .ref (gM g 0)), (3, .int (iI (i + 4)))] → W p l e room_1 s m #[Value.ref b] below meth c H2 locs2 18 731 (lw_Z below #[Value.ref b] s) (F0 m 18 ls2 []) := fun u2 v2 H2 locs2 ls2 a1 a2 a3 a4 a5 => ih (i + 4) u2 v2 H2 locs2 ls2 (by omega) (by omega) (by omega) a1 a2 a3 a4 a5
      by_cases hj24 : j < 24
      · rcases (show j = 0 ∨ j = 1 ∨ j = 2 ∨ j = 3 ∨ j = 4 ∨ j = 5 ∨ j = 6 ∨ j = 7 ∨ j = 8 ∨ j = 9 ∨ j = 10 ∨ j = 11 ∨ j = 12 ∨ j = 13 ∨ j = 14 ∨ j = 15 ∨ j = 16 ∨ j = 17 ∨ j = 18 ∨ j = 19 ∨ j = 20 ∨ j = 21 ∨ j = 22 ∨ j = 23 by omega) with rfl | rfl | rfl | rfl | rfl | rfl | rfl | rfl | rfl | rfl | rfl | rfl | rfl | rfl | rfl | rfl | rfl | rfl | rfl | rfl | rfl | rfl | rfl | rfl
        · exact lv_tableIn (tgt := 144) hx hb dL_law_32 (by decide +kernel) (by decide +kernel) (show _ = some (112 : Int) by decide +kernel) (by decide) (lc_0 hL C0 G0 ⟨h0, by omega⟩ hI hPX hPM hS hl back)
        · exact lv_tableIn (tgt := 168) hx hb dL_law_32 (by decide +kernel) (by decide +kernel) (show _ = some (136 : Int) by decide +kernel) (by decide) (lc_1 hL C0 G0 ⟨h0, by omega⟩ hI hPX hPM hS hl back)
        · exact lv_tableIn (tgt := 182) hx hb dL_law_32 (by decide +kernel) (by decide +kernel) (show _ = some (150 : Int) by decide +kernel) (by decide) (lc_2 hL C0 G0 ⟨h0, by omega⟩ hI hPX hPM hS hl back)
        · exact lv_tableIn (tgt := 196) hx hb dL_law_32 (by decide +kernel) (by decide +kernel) (show _ = some (164 : Int) by decide +kernel) (by decide) (lc_3 hL C0 G0 ⟨h0, by omega⟩ hI hPX hPM hS hl back)
        · exact lv_tableIn (tgt := 210) hx hb dL_law_32 (by decide +kernel) (by decide +kernel) (show _ = some (178 : Int) by decide +kernel) (by decide) (lc_4 hL C0 G0 ⟨h0, by omega⟩ hI hPX hPM hS hl back)
        · exact lv_tableIn (tgt := 244) hx hb dL_law_32 (by decide +kernel) (by decide +kernel) (show _ = some (212 : Int) by decide +kernel) (by decide) (lc_5 hL C0 G0 ⟨h0, by omega⟩ hI hPX hPM hS hl back)
        · exact lv_tableIn (tgt := 288) hx hb dL_law_32 (by decide +kernel) (by decide +kernel) (show _ = some (256 : Int) by decide +kernel) (by decide) (lc_6 hL C0 G0 ⟨h0, by omega⟩ hI hPX hPM hS hl back)
        · exact lv_tableIn (tgt := 302) hx hb dL_law_32 (by decide +kernel) (by decide +kernel) (show _ = some (270 : Int) by decide +kernel) (by decide) (lc_7 hL C0 G0 ⟨h0, by omega⟩ hI hPX hPM hS hl back)
        · exact lv_tableIn (tgt := 326) hx hb dL_law_32 (by decide +kernel) (by decide +kernel) (show _ = some (294 : Int) by decide +kernel) (by decide) (lc_8 hL C0 G0 ⟨h0, by omega⟩ hI hPX hPM hS hl back)
        · exact lv_tableIn (tgt := 360) hx hb dL_law_32 (by decide +kernel) (by decide +kernel) (show _ = some (328 : Int) by decide +kernel) (by decide) (lc_9 hL C0 G0 ⟨h0, by omega⟩ hI hPX hPM hS hl back)
        · exact lv_tableIn (tgt := 394) hx hb dL_law_32 (by decide +kernel) (by decide +kernel) (show _ = some (362 : Int) by decide +kernel) (by decide) (lc_10 hL C0 G0 ⟨h0, by omega⟩ hI hPX hPM hS hl back)
        · exact lv_tableIn (tgt := 408) hx hb dL_law_32 (by decide +kernel) (by decide +kernel) (show _ = some (376 : Int) by decide +kernel) (by decide) (lc_11 hL C0 G0 ⟨h0, by omega⟩ hI hPX hPM hS hl back)
        · exact lv_tableIn (tgt := 432) hx hb dL_law_32 (by decide +kernel) (by decide +kernel) (show _ = some (400 : Int) by decide +kernel) (by decide) (lc_12 hL C0 G0 ⟨h0, by omega⟩ hI hPX hPM hS hl back)
        · exact lv_tableIn (tgt := 456) hx hb dL_law_32 (by decide +kernel) (by decide +kernel) (show _ = some (424 : Int) by decide +kernel) (by decide) (lc_13 hL C0 G0 ⟨h0, by omega⟩ hI hPX hPM hS hl back)
        · exact lv_tableIn (tgt := 480) hx hb dL_law_32 (by decide +kernel) (by decide +kernel) (show _ = some (448 : Int) by decide +kernel) (by decide) (lc_14 hL C0 G0 ⟨h0, by omega⟩ hI hPX hPM hS hl back)
        · exact lv_tableIn (tgt := 524) hx hb dL_law_32 (by decide +kernel) (by decide +kernel) (show _ = some (492 : Int) by decide +kernel) (by decide) (lc_15 hL C0 G0 ⟨h0, by omega⟩ hI hPX hPM hS hl back)
        · exact lv_tableIn (tgt := 548) hx hb dL_law_32 (by decide +kernel) (by decide +kernel) (show _ = some (516 : Int) by decide +kernel) (by decide) (lc_16 hL C0 G0 ⟨h0, by omega⟩ hI hPX hPM hS hl back)
        · exact lv_tableIn (tgt := 572) hx hb dL_law_32 (by decide +kernel) (by decide +kernel) (show _ = some (540 : Int) by decide +kernel) (by decide) (lc_17 hL C0 G0 ⟨h0, by omega⟩ hI hPX hPM hS hl back)
        · exact lv_tableIn (tgt := 596) hx hb dL_law_32 (by decide +kernel) (by decide +kernel) (show _ = some (564 : Int) by decide +kernel) (by decide) (lc_18 hL C0 G0 ⟨h0, by omega⟩ hI hPX hPM hS hl back)
        · exact lv_tableIn (tgt := 620) hx hb dL_law_32 (by decide +kernel) (by decide +kernel) (show _ = some (588 : Int) by decide +kernel) (by decide) (lc_19 hL C0 G0 ⟨h0, by omega⟩ hI hPX hPM hS hl back)
        · exact lv_tableIn (tgt := 644) hx hb dL_law_32 (by decide +kernel) (by decide +kernel) (show _ = some (612 : Int) by decide +kernel) (by decide) (lc_20 hL C0 G0 ⟨h0, by omega⟩ hI hPX hPM hS hl back)
        · exact lv_tableIn (tgt := 678) hx hb dL_law_32 (by decide +kernel) (by decide +kernel) (show _ = some (646 : Int) by decide +kernel) (by decide) (lc_21 hL C0 G0 ⟨h0, by omega⟩ hI hPX hPM hS hl back)
        · exact lv_tableIn (tgt := 712) hx hb dL_law_32 (by decide +kernel) (by decide +kernel) (show _ = some (680 : Int) by decide +kernel) (by decide) (lc_22 hL C0 G0 ⟨h0, by omega⟩ hI hPX hPM hS hl back)
        · exact lv_tableIn (tgt := 736) hx hb dL_law_32 (by decide +kernel) (by decide +kernel) (show _ = some (704 : Int) by decide +kernel) (by decide) (lc_23 hL C0 G0 ⟨h0, by omega⟩ hI hPX hPM hS hl back)
      · refine lv_tableOut (tgt := 750) hx hb dL_law_32 (Or.inr ?_) (by decide) (lc_d hL C0 G0 ⟨h0, by omega⟩ hI hPX hPM hS hl back)
        rw [nI_toInt (by omega)]; omega
