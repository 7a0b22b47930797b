/-! ===== THE ENTRY: the statics as the Statement gives them, the two objects, the loop ===== -/
set_option maxRecDepth 100000 in
theorem st_sin : ∀ k : Fin 32, (flatC (Jvm.Cond.and given_1 narrow_1))[12 + k.val]? = some (Cond.eq (.elem (.static "TraverseBoard" "SIN" "[I") (.int (Int32.ofNat k.val))) (.int (iI (sn (k.val : Int))))) := by decide +kernel
set_option maxRecDepth 100000 in
theorem st_nm : ∀ k : Fin 160, (flatC (Jvm.Cond.and given_1 narrow_1))[48 + k.val]? = some (Cond.eq (.elem (.field (.string "TraverseBoard" 81) "java/lang/String" "value" "[B") (.int (Int32.ofNat k.val))) (.int (([nmB].getD 0 []).getD k.val 0))) := by decide +kernel
theorem eval_at {args : Array Value} {s : State} {t : Term} {z : Int32} (h : (Cond.eq t (.int z)).before args s = true) : t.eval args s none [] s = some (.int z) := va_eqt h
set_option maxHeartbeats 4000000 in
set_option maxRecDepth 100000 in
/-- the statics, at the law's entry -/
theorem st_ZS {s : State} {b : Nat} (hts : ∀ w ∈ lw_tbl, w.before #[Value.ref b] s = true) (hgv : (Jvm.Cond.and given_1 narrow_1).before #[Value.ref b] s = true) : ∃ tS tA tB : Nat, ∀ g : GG, gS g = tS → gA g = tA → gB g = tB → ZS (fun q : Nat => s.heap.size ≤ q) g s s.heap := by
  have hs := flat_of_before _ hgv
  have hA : ∀ a : Nat, a < s.heap.size → ¬ (fun q : Nat => s.heap.size ≤ q) a := fun a h => Nat.not_le.mpr h
  have h1 : (Cond.arrayOf (.static "TraverseBoard" "SIN" "[I") .int).before #[Value.ref b] s = true := hs _ (by decide +kernel)
  have h2 : (Cond.eq (.length (.static "TraverseBoard" "SIN" "[I")) (.int 32)).before #[Value.ref b] s = true := hs _ (by decide +kernel)
  have h3 : (Cond.eq (.static "java/lang/String" "COMPACT_STRINGS" "Z") (.int 1)).before #[Value.ref b] s = true := hs _ (by decide +kernel)
  have h4 : (Cond.isRef (.static "jdk/internal/util/Preconditions" "SIOOBE_FORMATTER" "Ljava/util/function/BiFunction;")).before #[Value.ref b] s = true := hs _ (by decide +kernel)
  have k1 : (Cond.exactly (.string "TraverseBoard" 81) "java/lang/String").before #[Value.ref b] s = true := hs _ (by decide +kernel)
  have k2 : (Cond.eq (.field (.string "TraverseBoard" 81) "java/lang/String" "coder" "B") (.int 0)).before #[Value.ref b] s = true := hs _ (by decide +kernel)
  have k3 : (Cond.arrayOf (.field (.string "TraverseBoard" 81) "java/lang/String" "value" "[B") .byte).before #[Value.ref b] s = true := hs _ (by decide +kernel)
  have k4 : (Cond.eq (.length (.field (.string "TraverseBoard" 81) "java/lang/String" "value" "[B")) (.int 160)).before #[Value.ref b] s = true := hs _ (by decide +kernel)
  have w1 : (Cond.laysStatic "TraverseBoard" "SIN" "[I").before #[Value.ref b] s = true := hts _ (by decide +kernel)
  have w2 : (Cond.initialized "TraverseBoard").before #[Value.ref b] s = true := hts _ (by decide +kernel)
  have w3 : (Cond.laysStatic "java/lang/String" "COMPACT_STRINGS" "Z").before #[Value.ref b] s = true := hts _ (by decide +kernel)
  have w4 : (Cond.initialized "java/lang/String").before #[Value.ref b] s = true := hts _ (by decide +kernel)
  have w5 : (Cond.laysStatic "jdk/internal/util/Preconditions" "SIOOBE_FORMATTER" "Ljava/util/function/BiFunction;").before #[Value.ref b] s = true := hts _ (by decide +kernel)
  have w6 : (Cond.initialized "jdk/internal/util/Preconditions").before #[Value.ref b] s = true := hts _ (by decide +kernel)
  have w7 : (Cond.stringRef "TraverseBoard" 81 nmT).before #[Value.ref b] s = true := hts _ (by decide +kernel)
  obtain ⟨tS, e1, q1⟩ := va_Tof (tm := .static "TraverseBoard" "SIN" "[I") (N := 32) (f := fun k => .int (iI (sn (k : Int)))) (A := fun q : Nat => s.heap.size ≤ q) (by decide) h1 (va_eqt h2) (fun j hj => va_eqt (hs _ (List.mem_of_getElem? (st_sin ⟨j, hj⟩)))) hA
  obtain ⟨adK, adV, q2, e2⟩ := vk_Sof (N := 1) (tm := fun _ => .string "TraverseBoard" 81) (len := [160]) (byt := [nmB]) (A := fun q : Nat => s.heap.size ≤ q) (fun i hi => by rw [show i = 0 by omega]; decide) (fun _ _ => k1) (fun _ _ => k2) (fun _ _ => k3) (fun i hi => by rw [show i = 0 by omega]; exact k4) (fun i hi j hj => by
    rw [show i = 0 by omega] at hj ⊢
    exact hs _ (List.mem_of_getElem? (st_nm ⟨j, hj⟩))) (fun i j hi hj h => absurd (show i = j by omega) h) hA
  refine ⟨tS, adK 0, adV 0, fun g e3 e4 e5 => ⟨?_, ?_, ?_, ?_, ?_, ?_⟩⟩
  · rw [e3]; exact va_Zref w1 w2 e1 hA
  · rw [e3]; exact q1
  · rw [e4]; exact vk_R.of w7 (e2 0 (by decide))
  · rw [e4, e5]
    refine ⟨fun i hi => ?_, fun i j hi hj _ => by omega⟩
    rw [show i = 0 by omega]
    exact q2.1 0 (by decide)
  · exact va_Zof w3 w4 (va_eqi h3) hA
  · exact va_Zqof w5 w6 h4 hA
/-- the classes of the arrays -/
theorem st_K {s : State} {b : Nat} (hts : ∀ w ∈ lw_tbl, w.before #[Value.ref b] s = true) {ty : FieldType} (h : Cond.arrayClass ty ∈ lw_tbl) (hp : ∀ C, ty ≠ .object C) : ∃ cA : ClassId, ArrOfT s cA ty ∧ va_RA s cA ty := by
  obtain ⟨cA, kA, comp, h1, h2, h3⟩ := Cond.arrayClass_spec (hts _ h)
  refine ⟨cA, fun n z => ⟨fun k h => (by cases h), kA, h2, comp, h3⟩, ?_⟩
  cases ty with
  | object C => exact absurd rfl (hp C)
  | _ => exact h1
set_option maxHeartbeats 8000000 in
set_option maxRecDepth 100000 in
/-- THE LAW, from its entry -/
theorem whole_start {p : Program} {e : Env} {s : State} {m : MethodId} {below : List Frame} {meth : Method} {c : Code} (l : Launch) (hflags : l.flags = flags0) {b L : Nat} {xs : Nat → Int32} (hL : L ≤ 2048) (C0 : lw_At p s m meth c b L xs) : W p l e room_1 s m #[Value.ref b] below meth c s.heap [] 0 0 (lw_Z below #[Value.ref b] s) (entryFrame m ([Value.ref b] : List Value).toArray 4) := by
  obtain ⟨hx, hb, hr, hml, hown, hts0, hX, hbl, hlocks, hgv⟩ := id C0
  have hts := fun w h => hts0 w (wsL_law_in w h)
  have hown : s.vm.findClass RL = some m.cls := hown
  have hA : ∀ q : Nat, s.heap.size ≤ q → (fun q : Nat => s.heap.size ≤ q) q := fun _ h => h
  obtain ⟨tS, tA, tB, hZ⟩ := st_ZS hts0 hgv
  obtain ⟨cI, hcI⟩ := st_K hts0 (ty := .int) (by decide +kernel) (fun C h => by cases h)
  obtain ⟨cZ, hcZ⟩ := st_K hts0 (ty := .boolean) (by decide +kernel) (fun C h => by cases h)
  obtain ⟨cJ, hcJ⟩ := st_K hts0 (ty := .long) (by decide +kernel) (fun C h => by cases h)
  have mi0 : Cond.instantiable RX0 12 ∈ wsL_law := by decide +kernel
  have mi1 : Cond.instantiable RX1 17 ∈ wsL_law := by decide +kernel
  have mn0 : Cond.initialized RX0 ∈ wsL_law := by decide +kernel
  have mn1 : Cond.initialized RX1 ∈ wsL_law := by decide +kernel
  have mc0 : Cond.classLink RL 7 RX0 ∈ wsL_law := by decide +kernel
  have mc1 : Cond.classLink RL 10 RX1 ∈ wsL_law := by decide +kernel
  have ml0 : Cond.methodLink RL 9 yX0_init ∈ wsL_law := by decide +kernel
  have ml1 : Cond.methodLink RL 12 yX1_init ∈ wsL_law := by decide +kernel
  have ms0 : Cond.instanceMethod yX0_init ∈ wsL_law := by decide +kernel
  have ms1 : Cond.instanceMethod yX1_init ∈ wsL_law := by decide +kernel
  obtain ⟨k0, iS0, hKn0⟩ := u_known (C := RX0) (T := TX0) (N := 12) (n := 12) hts inlX0 (hts _ mi0)
  obtain ⟨k1, iS1, hKn1⟩ := u_known (C := RX1) (T := TX1) (N := 17) (n := 17) hts inlX1 (hts _ mi1)
  obtain ⟨DD, hKc⟩ : ∃ (DD : va_G), ∀ (k : Nat) (q : vw_C), vwCl[k]? = some q → u_Kn s q.1 q.2.1 q.2.2 (DD.1 k) (DD.2 k) := by
    refine ⟨(fun k => if k = 0 then k0 else k1, fun k => if k = 0 then iS0 else iS1), ?_⟩
    intro k q hq
    match k, hq with
    | 0, hq => cases hq; exact hKn0
    | 1, hq => cases hq; exact hKn1
    | k + 2, hq => simp [vwCl] at hq
  have hS : va_S (fun q : Nat => s.heap.size ≤ q) s.heap s.heap [] := va_S.rf
  have hK : va_K DD vwCl (kT cI cZ cJ) s := ⟨hKc, fun k q h => by
    match k, h with
    | 0, h => cases h; exact hcI
    | 1, h => cases h; exact hcZ
    | 2, h => cases h; exact hcJ
    | k + 3, h => simp [kT] at h⟩
  have hP : va_P DD vwCl [] s.heap := fun k q h => by simp at h
  have hD : va_D (fun q : Nat => s.heap.size ≤ q) [] := ⟨fun i j p q h => by simp at h, fun k q h => by simp at h⟩
  have hl := lv_entry ([.ref b]) (n := 4) (Nat.le_of_ble_eq_true rfl)
  rw [lg_entry_eq]
  generalize (lg_sl ([.ref b]) ++ List.replicate (4 - (lg_sl ([.ref b])).length) Slot.unset).toArray = ls at hl ⊢
  have hl : lv_has ls 4 [(0, .ref b)] := hl
  refine va_new (ci := 0) (fs := [.null, .int 0, .int 0, .null, .null, .null, .null, .int 0, .int 0, .null, .null, .null]) (C := RX0) (T := TX0) (N := 12) hx hb hts inlX0 tyX0 tyX0_ok hown (hts _ mc0) (hts _ mi0) (hts _ mn0) hK hP hD hS hA rfl (fun j hj => by rcases (show j = 0 ∨ j = 1 ∨ j = 2 ∨ j = 3 ∨ j = 4 ∨ j = 5 ∨ j = 6 ∨ j = 7 ∨ j = 8 ∨ j = 9 ∨ j = 10 ∨ j = 11 by omega) with rfl | rfl | rfl | rfl | rfl | rfl | rfl | rfl | rfl | rfl | rfl | rfl <;> rfl) (Nat.le_of_ble_eq_true rfl) (Nat.le_of_ble_eq_true rfl) dL_law_0 (fun qx H hP hD hS => ?_)
  have hP : va_P DD vwCl [(qx, .inr (0, [.null, .int 0, .int 0, .null, .null, .null, .null, .int 0, .int 0, .null, .null, .null]))] H := hP
  have hD : va_D (fun q : Nat => s.heap.size ≤ q) [(qx, .inr (0, [.null, .int 0, .int 0, .null, .null, .null, .null, .int 0, .int 0, .null, .null, .null]))] := hD
  refine lv_dup hx hb dL_law_3 rfl ?_
  have hFc := va_free (wc := [(qx, .inr (0, [.null, .int 0, .int 0, .null, .null, .null, .null, .int 0, .int 0, .null, .null, .null]))]) hD hS hA [0] rfl
  refine va_callv (va_runI (As := []) (rest := [.ref qx]) ⟨hx, hb, hml, hown, hts⟩ (c_X0_init l DD cI cZ cJ qx H.size) (cwI 0 hts gL_law_X0_init rfl rfl rfl (hts _ mn0) (hts _ ml0) (hts _ ms0) rfl (by decide +kernel) ⟨Nat.le_of_ble_eq_true rfl, Nat.le_of_ble_eq_true rfl⟩) ⟨fun a U gf mk q => by obtain ⟨q0, q1, qP, qK, qD⟩ := q; exact ⟨q0, q1, qP, va_K.moved (u := U) (U := U.calling gf mk a) (Vm.Alike.refl U.vm) qK, qD⟩, fun U hU hW => ⟨rfl, by rw [hU], by rw [hU]; exact hP, va_K.moved hW.alike hK, hD.weaken (fun _ _ _ _ => trivial)⟩⟩ rfl rfl hl.1 rfl (lv_room (Nat.le_of_ble_eq_true rfl)) dL_law_4 ⟨Nat.le_of_ble_eq_true rfl, Nat.le_of_ble_eq_true rfl⟩) hS (fun q _ h => hFc q h) hFc (fun ad t H1 locs ht hvm _ hB hH1 hH2 hS => ?_)
  obtain ⟨had, hP1, hD1⟩ := hB
  rw [ht] at hP1
  obtain ⟨hP, hD⟩ := va_join (wr := []) (w1 := wX (gk DD ad cI cZ cJ) u0) hP hD [0] [] rfl rfl (by decide) (by decide) hH2 hFc hP1 hD1
  have hP : va_P DD vwCl (wX (gk DD ad cI cZ cJ) u0) H1 := hP
  have hD : va_D (fun q : Nat => s.heap.size ≤ q) (wX (gk DD ad cI cZ cJ) u0) := hD
  refine lv_astore_n (lv' := [(1, .ref qx), (0, .ref b)]) hx hb dL_law_7 rfl hl (by decide) rfl (fun ls hl => ?_)
  clear hH1 hH2 hFc hvm hP1 hD1
  refine va_new (ci := 1) (fs := [.int 0, .null, .int 0, .null, .null, .null, .null, .int 0, .int 0, .null, .null, .null, .int 0, .int 0, .int 0, .int 0, .long 0]) (C := RX1) (T := TX1) (N := 17) hx hb hts inlX1 tyX1 tyX1_ok hown (hts _ mc1) (hts _ mi1) (hts _ mn1) hK hP hD hS hA rfl (fun j hj => by rcases (show j = 0 ∨ j = 1 ∨ j = 2 ∨ j = 3 ∨ j = 4 ∨ j = 5 ∨ j = 6 ∨ j = 7 ∨ j = 8 ∨ j = 9 ∨ j = 10 ∨ j = 11 ∨ j = 12 ∨ j = 13 ∨ j = 14 ∨ j = 15 ∨ j = 16 by omega) with rfl | rfl | rfl | rfl | rfl | rfl | rfl | rfl | rfl | rfl | rfl | rfl | rfl | rfl | rfl | rfl | rfl <;> rfl) (Nat.le_of_ble_eq_true rfl) (Nat.le_of_ble_eq_true rfl) dL_law_8 (fun qm H hP hD hS => ?_)
  refine lv_dup hx hb dL_law_11 rfl ?_
  have hPc := hP.sub (ws' := [(qm, .inr (1, [.int 0, .null, .int 0, .null, .null, .null, .null, .int 0, .int 0, .null, .null, .null, .int 0, .int 0, .int 0, .int 0, .long 0]))]) [9] rfl
  have hDc := hD.sub (ws' := [(qm, .inr (1, [.int 0, .null, .int 0, .null, .null, .null, .null, .int 0, .int 0, .null, .null, .null, .int 0, .int 0, .int 0, .int 0, .long 0]))]) [9] (by decide) rfl
  have hFc := va_free (wc := [(qm, .inr (1, [.int 0, .null, .int 0, .null, .null, .null, .null, .int 0, .int 0, .null, .null, .null, .int 0, .int 0, .int 0, .int 0, .long 0]))]) hD hS hA [9] rfl
  refine va_callv (va_runI (As := []) (rest := [.ref qm]) ⟨hx, hb, hml, hown, hts⟩ (c_X1_init l DD cI cZ cJ qm H.size) (cwI 0 hts gL_law_X1_init rfl rfl rfl (hts _ mn1) (hts _ ml1) (hts _ ms1) rfl (by decide +kernel) ⟨Nat.le_of_ble_eq_true rfl, Nat.le_of_ble_eq_true rfl⟩) ⟨fun a U gf mk q => by obtain ⟨q0, q1, qP, qK, qD⟩ := q; exact ⟨q0, q1, qP, va_K.moved (u := U) (U := U.calling gf mk a) (Vm.Alike.refl U.vm) qK, qD⟩, fun U hU hW => ⟨rfl, by rw [hU], by rw [hU]; exact hPc, va_K.moved hW.alike hK, hDc.weaken (fun _ _ _ _ => trivial)⟩⟩ rfl rfl hl.1 rfl (lv_room (Nat.le_of_ble_eq_true rfl)) dL_law_12 ⟨Nat.le_of_ble_eq_true rfl, Nat.le_of_ble_eq_true rfl⟩) hS (fun q _ h => hFc q h) hFc (fun am t H1 locs ht hvm _ hB hH1 hH2 hS => ?_)
  obtain ⟨ham, hP1, hD1⟩ := hB
  rw [ht] at hP1
  obtain ⟨hP, hD⟩ := va_join (wr := wX (gk DD ad cI cZ cJ) u0) (w1 := wM (gk DD am cI cZ cJ) u0 v0) hP hD [9] [0, 1, 2, 3, 4, 5, 6, 7, 8] rfl rfl (by decide) (by decide) hH2 hFc hP1 hD1
  refine lv_astore_n (lv' := [(2, .ref qm), (1, .ref qx), (0, .ref b)]) hx hb dL_law_15 rfl hl (by decide) rfl (fun ls hl => ?_)
  clear hH1 hH2 hFc hvm hP1 hD1 hPc hDc
  refine z_iconst hx hb dL_law_16 ?_
  refine lv_istore_n (lv' := [(3, .int (iI 0)), (2, .ref qm), (1, .ref qx), (0, .ref b)]) hx hb dL_law_17 rfl hl (by decide) rfl (fun ls hl => ?_)
  obtain ⟨g, eg⟩ : ∃ g : GG, g = (DD, ad, am, (cI, cZ, cJ), (tS, tA, tB)) := ⟨_, rfl⟩
  have hPX : va_P (gD g) vwCl (wX g u0) H1 := by rw [eg]; exact hP.sub [0, 1, 2, 3, 4, 5, 6, 7, 8] rfl
  have hPM : va_P (gD g) vwCl (wM g u0 v0) H1 := by rw [eg]; exact hP.sub [9, 10, 11, 12, 13, 14, 15, 16, 17] rfl
  have eX : ∀ i : Nat, i < 9 → ∃ q : va_E, (wX (gk DD ad cI cZ cJ) u0 ++ wM (gk DD am cI cZ cJ) u0 v0)[i]? = some (ad i, q) := fun i hi => by
    rcases (show i = 0 ∨ i = 1 ∨ i = 2 ∨ i = 3 ∨ i = 4 ∨ i = 5 ∨ i = 6 ∨ i = 7 ∨ i = 8 by omega) with rfl | rfl | rfl | rfl | rfl | rfl | rfl | rfl | rfl <;> exact ⟨_, rfl⟩
  have eM : ∀ i : Nat, i < 9 → ∃ q : va_E, (wX (gk DD ad cI cZ cJ) u0 ++ wM (gk DD am cI cZ cJ) u0 v0)[i + 9]? = some (am i, q) := fun i hi => by
    rcases (show i = 0 ∨ i = 1 ∨ i = 2 ∨ i = 3 ∨ i = 4 ∨ i = 5 ∨ i = 6 ∨ i = 7 ∨ i = 8 by omega) with rfl | rfl | rfl | rfl | rfl | rfl | rfl | rfl | rfl <;> exact ⟨_, rfl⟩
  have G0 : LG g s := by
    rw [eg]
    refine ⟨⟨fun i j hi hj h => ?_, fun i j hi hj h => ?_⟩, fun k hk => ?_, fun k hk => ?_, fun i j hi hj h => ?_, hK, ?_⟩
    · obtain ⟨x1, e1⟩ := eX i hi
      obtain ⟨x2, e2⟩ := eX j hj
      exact hD.1 i j _ _ e1 e2 h
    · obtain ⟨x1, e1⟩ := eM i hi
      obtain ⟨x2, e2⟩ := eM j hj
      have := hD.1 (i + 9) (j + 9) _ _ e1 e2 h
      omega
    · obtain ⟨x1, e1⟩ := eX k hk
      exact hD.2 k _ e1
    · obtain ⟨x1, e1⟩ := eM k hk
      exact hD.2 (k + 9) _ e1
    · obtain ⟨x1, e1⟩ := eX i hi
      obtain ⟨x2, e2⟩ := eM j hj
      have := hD.1 i (j + 9) _ _ e1 e2 h
      omega
    · exact hZ _ rfl rfl rfl
  have hlx : lv_has ls 4 [(0, .ref b), (1, .ref (gX g 0)), (2, .ref (gM g 0)), (3, .int (iI 0))] := by
    rw [eg]
    show lv_has ls 4 [(0, .ref b), (1, .ref (ad 0)), (2, .ref (am 0)), (3, .int (iI 0))]
    rw [had, ham]
    exact lv_sub hl [3, 2, 1, 0] rfl
  exact law_loop hL C0 G0 (L + 1) 0 u0 v0 H1 locs ls (Int.le_refl 0) (by decide) (by omega) inv_0 hPX hPM hS hlx
-- ===== YOUR PART ENDS =====
set_option maxHeartbeats 4000000 in
theorem lw_walk (l : Launch) (hflags : l.flags = flags0) (b : Addr) (xs : List Int32) : MetFree l x (headSpec (Jvm.Cond.code x code maxLocals ret :: tables_1) room_1) (lw_P b xs) (fun _ _ _ _ _ => True) lw_Q := by
  refine MetFree.of_bodyS (code := code) (maxLocals := maxLocals) (ret := ret) (by decide) ?_ ?_
  · intro args s m h hn
    obtain ⟨meth, c, h1, h2, h3, h4, h5, h6, -, -⟩ := Cond.code_spec hn (atoms_spec (ws := Jvm.Cond.code x code maxLocals ret :: tables_1) h _ List.mem_cons_self)
    exact ⟨meth, c, h1, h2, h3, h4, h5, h6⟩
  · intro p e s m args below meth c s₁ B hml0 hP _
    obtain ⟨rfl, hx, hbd, hgv⟩ := hP
    obtain ⟨scr, harrAt, hlist, hof, hsmall⟩ := hx
    obtain ⟨hcb, hkn, -, -⟩ := State.arrayAt?_spec harrAt
    have hown : s.vm.findClass R_law = some m.cls := findClass_of_methodNamed B.named
    have hts0 : ∀ c ∈ (Jvm.Cond.code x code maxLocals ret :: tables_1), c.before #[Value.ref b] s = true := atoms_spec (ws := Jvm.Cond.code x code maxLocals ret :: tables_1) B.pre
    have hts : ∀ w ∈ lw_tbl, w.before #[Value.ref b] s = true := k2_hts_sels lw_privs (fun w hw => hts0 w (List.mem_cons_of_mem _ hw)) lw_privs_ok
    have hml : c.maxLocals = 4 := B.maxLocals_eq (hts0 _ List.mem_cons_self)
    have X₀ : Stand p l e room_1 s m #[Value.ref b] below meth c s₁ [] 0 0 := Stand.of_body B
    have hh0 : s₁.heap = s.heap := by rw [B.state]; rfl
    have hsz : scr.slots.size = xs.length := by rw [← Array.length_toList, hlist, List.length_map]
    have hval : ∀ j : Nat, j < xs.length → scr.slots[j]? = some (.int (xs.getD j 0)) := fun j hj => by
      rw [← Array.getElem?_toList, hlist]
      simp [hj]
    have hbl : b < s.heap.size := (Array.getElem?_eq_some_iff.mp hcb).1
    have hX : va_X b xs.length (fun j => xs.getD j 0) s s.heap := ⟨scr, hcb, hof, hkn, hsz, hval⟩
    have K : W p l e room_1 s m #[Value.ref b] below meth c s₁.heap [] 0 0 (lw_Z below #[Value.ref b] s) (entryFrame m ([Value.ref b] : List Value).toArray 4) := by
      rw [hh0]
      exact whole_start l hflags hbd ⟨B.exec, B.bytes, B.returns, hml, hown, hts, hX, hbl, B.notSynchronized, hgv⟩
    obtain ⟨t, a1, o, b1, b2, b3⟩ := K s₁ rfl X₀
    exact ⟨t, o, a1, b1, b2, b3⟩
theorem lw_pre_spec {args : Array Value} {s : State} (h : (Jvm.Cond.and given_1 narrow_1).before args s = true) (hr : rest_1_c.before args s = true) : ∃ (b : Addr) (xs : List Int32), lw_P b xs args s := by
  have hs := flat_of_before _ h
  have hq := flat_of_before _ hr
  have hc : (Cond.count 1).before args s = true := hs _ (by decide +kernel)
  have harr : (Cond.arrayOf (.arg 0) .int).before args s = true := hs _ (by decide +kernel)
  have hle : (Cond.le (.length (.arg 0)) (.int 2048)).before args s = true := hs _ (by decide +kernel)
  have hlen : (Cond.isInt (.length (.arg 0))).before args s = true := hq _ (by decide +kernel)
  have hall : (Cond.all (.arg 0) (.isInt (.elem (.arg 0) (.index 0)))).before args s = true := hq _ (by decide +kernel)
  obtain ⟨b, xs, hb, hx⟩ := State.ints_of_pre rfl harr hlen hall
  have hsm : xs.length < 2 ^ 31 := hx.choose_spec.2.2.2
  have hev : (Term.length (.arg 0)).eval args s none [] s = some (.int xs.length.toInt32) := hx.length_eval hb
  have hv := Cond.le_ints hev (show (Term.int 2048).eval args s none [] s = some (.int 2048) from rfl)
  have hd : xs.length.toInt32 ≤ 2048 := by
    simpa [Cond.before, Cond.holds, hv] using hle
  have hN : xs.length ≤ 2048 := (Int32.ofNat_le_ofNat hsm (by decide)).mp (show Int32.ofNat xs.length ≤ Int32.ofNat 2048 from hd)
  exact ⟨b, xs, Cond.one_arg hc (show args[0]? = some (.ref b) from hb), hx, hN, h⟩
theorem lw_comes (l : Launch) (hflags : l.flags = flags0) : Comes l x (Jvm.Cond.code x code maxLocals ret :: tables_1) room_1 (fun tb e args s => Calls_1 tb e args s ∧ rest_1 tb e args s ∧ Pre_1 tb e args s)
    (fun _ _ args s o t => lw_Q args s o t) := by
  intro p e ha hc hk s m args below hf hfit hheap happ hpre
  obtain ⟨b, xs, hP⟩ := lw_pre_spec hpre.2.2 hpre.2.1
  obtain ⟨k, o, h1, h2, h3, hQ⟩ := lw_walk l hflags b xs p e ha hc hk s m args below hf ((Spec.applies_iff_loose hf).mp happ).1 hP trivial
  exact ⟨k, o, h1, h2, h3, hQ⟩
theorem lw_frame {s t : State} {o : Outcome} {args : Array Value} (h : Framed s o t [] 18 731) :
    Framed s o t (fieldLocs frame_1_writes args s ++ arrayLocs frame_1_arrays args s ++ staticLocs frame_1_statics s) 18 731 := h
theorem lw_limb (L : Cond) (hL : ∀ (args : Array Value) (s t : State), L.after args s (.returned (some (.int 1))) t = true) :
    ArmFor flags0 classFile x code maxLocals ret World_1 tables_1 room_1 Calls_1 rest_1 Pre_1
      (fun tb e a s o t => postC L tb e a s o t ∧ Framed s o t (fieldLocs frame_1_writes a s ++ arrayLocs frame_1_arrays a s ++ staticLocs frame_1_statics s) 18 731) := by
  intro l hflags _ _ p e ha hc hk s m args below hf hfit hheap happ hpre
  obtain ⟨k, o, h1, h2, h3, rfl, hF⟩ := lw_comes l hflags p e ha hc hk s m args below hf hfit hheap happ hpre
  exact ⟨k, _, h1, h2, h3, hL args s _, lw_frame hF⟩
theorem i_vc : Claimed_1_1 ∧ Claimed_1_2 := ⟨lw_limb limb_1_1 (fun args s t => by simp [limb_1_1, Cond.after, Cond.holds, Cond.value]), lw_limb limb_1_2 (fun args s t => Cond.after_iff.mpr (by
  first | (rw [show limb_1_2 = Cond.eq .result (.int 1) from rfl, Cond.eq_ints (x := 1) (y := 1) rfl rfl]; simp; done) | (simp [limb_1_2, Cond.value, Term.eval]; done)))⟩
