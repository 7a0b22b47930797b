/-! ===== THE CONSTRUCTORS ===== -/
section ZN
variable {p : Program} {l : Launch} {e : Env} {R : Room} {s : State} {m : MethodId} {args : Array Value} {below : List Frame} {meth : Method} {c : Code} {H H0 : Heap} {locs : List Loc} {cells slots : Nat} {Q : State → Prop}
variable {cc : ByteArray} {pc : Nat} {ls : Array Slot} {rest : List Value} {DD : va_G} {cl : List vw_C} {tys : List (ClassId × FieldType)} {ws : va_W} {A : Nat → Prop}
/-- a new array of a class that the tables' list has already -/
theorem z_newa (hx : p.tables.exec = Jvm.exec) (hb : c.code = cc) {atype : ArrayType} (harr : (Cond.arrayClass (newarray.typeOf atype)).before args s = true) {ty : FieldType} (hty : newarray.typeOf atype = ty) (hK : va_K DD cl tys s) (t0 : Nat) {cA : ClassId} (ht : tys[t0]? = some (cA, ty)) (hP : va_P DD cl ws H) (hD : va_D A ws) (hS : va_S A H0 H locs) (hA : ∀ q, H0.size ≤ q → A q)
    {n : Int} {N' : Nat} {a0 : vp_A} (ha : ∀ cA : ClassId, vp_cell cA a0 = arrV cA N' (fun _ => defaultValue ty)) (hn : 0 ≤ n ∧ n < 1000) (hN : n.toNat = N') (hbytes : N' * componentBytes ty ≤ 536870912) (hcells : cells + 1 ≤ R.cells) (hslots : slots + N' ≤ R.slots) (hdg : decode cc pc = .ok (.newarray atype, 2))
    (kk : ∀ (q : Nat) (H1 : Heap), va_P DD cl (ws ++ [(q, .inl (cA, a0))]) H1 → va_D A (ws ++ [(q, .inl (cA, a0))]) → va_S A H0 H1 locs → W p l e R s m args below meth c H1 locs (cells + 1) (slots + N') Q (F0 m (pc + 2) ls (.ref q :: rest))) : W p l e R s m args below meth c H locs cells slots Q (F0 m pc ls (.int (iI n) :: rest)) := by
  refine va_newa hx hb harr hty hK hP hD hS hA ha (by rw [iI_0, iI_lt ⟨by omega, by omega⟩ ⟨by decide, by decide⟩]; omega) (by rw [iI_clamp ⟨by omega, by omega⟩]; exact hN) hbytes hcells hslots hdg (fun q cB H1 hK1 hP1 hD1 hS1 => ?_)
  have e1 := (hK.2 t0 _ ht).2
  have e2 := (hK1.2 tys.length (cB, ty) (by simp)).2
  have e : cB = cA := by
    subst hty
    cases atype <;> exact Option.some.inj (e2.symm.trans e1)
  subst e
  exact kk q H1 hP1 hD1 hS1
end ZN
def z0 : Int → Int := fun _ => 0
def u0 : ST := (0, 0, 0, 0, z0, z0, z0, z0, z0, zup z0 0 1, z0, z0)
def v0 : VT := (0, 0, 0, 0, 0)
def gk (DD : va_G) (ad : Nat → Nat) (cI cZ cJ : ClassId) : GG := (DD, ad, ad, (cI, cZ, cJ), (0, 0, 0))
def kT (cI cZ cJ : ClassId) : List (ClassId × FieldType) := [(cI, .int), (cZ, .boolean), (cJ, .long)]
theorem inv_0 : Inv u0 := by
  refine ⟨by decide, by decide, by decide, by decide, fun k a b => ?_, fun k => ?_, fun k => ?_, fun k => ?_, fun k => ?_, fun k => Or.inl rfl, zup_all (P := fun y => y = 0 ∨ y = 1) (fun _ => Or.inl rfl) (by decide), rfl, fun k hk => ?_, fun k => ?_, fun k => ?_⟩
  · exact absurd b (Int.not_lt.mpr a)
  · show (0 : Int) ≤ 0 ∧ (0 : Int) ≤ 126; decide
  · show (0 : Int) ≤ 0 ∧ (0 : Int) ≤ 31; decide
  · show (0 : Int) ≤ 0 ∧ (0 : Int) ≤ 200; decide
  · show (-2 : Int) ≤ 0 ∧ (0 : Int) ≤ 2; decide
  · show zup z0 0 1 k = 0
    have hk : (0 : Int) < k := hk
    rw [zup_n _ _ (by omega)]; rfl
  · show (-200000000 : Int) ≤ 0 ∧ (0 : Int) ≤ 200000000; decide
  · show (-200000000 : Int) ≤ 0 ∧ (0 : Int) ≤ 200000000; decide

set_option maxHeartbeats 4000000 in
set_option maxRecDepth 100000 in
theorem c_X0_init (l : Launch) (DD : va_G) (cI cZ cJ : ClassId) (h0 sz : Nat) : Met l yX0_init wsX0_init ({ frames := 1, cells := 8, slots := 351, locals := 20 }) (va_Pc [.ref h0] (fun U => U.heap.size = sz ∧ va_P DD vwCl [(h0, .inr (0, [.null, .int 0, .int 0, .null, .null, .null, .null, .int 0, .int 0, .null, .null, .null]))] U.heap ∧ va_K DD vwCl (kT cI cZ cJ) U ∧ va_D (fun _ => True) [(h0, .inr (0, [.null, .int 0, .int 0, .null, .null, .null, .null, .int 0, .int 0, .null, .null, .null]))])) (va_Qv (fun (_ : Nat → Nat) => True) (fun ad t => ad 0 = h0 ∧ va_P DD vwCl (wX (gk DD ad cI cZ cJ) u0) t.heap ∧ va_D (va_A [(h0, .inr (0, [.null, .int 0, .int 0, .null, .null, .null, .null, .int 0, .int 0, .null, .null, .null]))] sz) (wX (gk DD ad cI cZ cJ) u0)) (va_A [(h0, .inr (0, [.null, .int 0, .int 0, .null, .null, .null, .null, .int 0, .int 0, .null, .null, .null]))] sz)) 8 351 (va_A [(h0, .inr (0, [.null, .int 0, .int 0, .null, .null, .null, .null, .int 0, .int 0, .null, .null, .null]))] sz) := by
  refine Met.ofW (cc := cX0_init) (maxL := 1) (ret := none) (by decide) rfl ?_
  intro pp ee s mm args below meth cc9 s₁ B hml hv
  obtain ⟨rfl, hsz, hP, hK, hD0⟩ := hv
  have hx := B.exec
  have hb := B.bytes
  have hr := B.returns
  have hts := atoms_spec (ws := wsX0_init) B.pre
  have hown : s.vm.findClass RX0 = some mm.cls := findClass_of_methodNamed B.named
  have hlocks := B.notSynchronized
  have hin2 : meth.name = "<init>" := (name_of_methodNamed B.named B.method).1
  have hin : ∀ w ∈ wsX00, w ∈ wsX0_init := fun w h => List.mem_cons_of_mem _ (List.mem_append_right _ h)
  have m9 : Cond.fieldLink RX0 9 "TraverseBoard" "buffer" "[I" ∈ wsX0_init := by decide +kernel
  have m13 : Cond.fieldLink RX0 13 "TraverseBoard" "points" "[I" ∈ wsX0_init := by decide +kernel
  have m16 : Cond.fieldLink RX0 16 "TraverseBoard" "speeds" "[I" ∈ wsX0_init := by decide +kernel
  have m19 : Cond.fieldLink RX0 19 "TraverseBoard" "leeways" "[I" ∈ wsX0_init := by decide +kernel
  have m22 : Cond.fieldLink RX0 22 "TraverseBoard" "lost" "[Z" ∈ wsX0_init := by decide +kernel
  have m26 : Cond.fieldLink RX0 26 "TraverseBoard" "fixed" "[Z" ∈ wsX0_init := by decide +kernel
  have m29 : Cond.fieldLink RX0 29 "TraverseBoard" "fixNorths" "[I" ∈ wsX0_init := by decide +kernel
  have m32 : Cond.fieldLink RX0 32 "TraverseBoard" "fixEasts" "[I" ∈ wsX0_init := by decide +kernel
  have ma_int : Cond.arrayClass .int ∈ wsX0_init := by decide +kernel
  have ma_boolean : Cond.arrayClass .boolean ∈ wsX0_init := by decide +kernel
  have mo1 : Cond.methodLink RX0 1 objectInit ∈ wsX0_init := by decide +kernel
  have mo2 : Cond.instanceMethod objectInit ∈ wsX0_init := by decide +kernel
  have mo3 : Cond.code objectInit ⟨#[0xb1]⟩ 1 none ∈ wsX0_init := by decide +kernel
  subst hsz
  have hD := hD0.self (sz := s.heap.size)
  generalize hAe : va_A [(h0, .inr (0, [.null, .int 0, .int 0, .null, .null, .null, .null, .int 0, .int 0, .null, .null, .null]))] s.heap.size = A at hD ⊢
  have hA : ∀ q : Nat, s.heap.size ≤ q → A q := fun q h => by rw [← hAe]; exact Or.inr h
  have hS : va_S A s.heap s.heap [] := va_S.rf
  have hl := lv_entry ([.ref h0]) (n := 1) (Nat.le_of_ble_eq_true rfl)
  rw [lg_entry_eq]
  generalize (lg_sl ([.ref h0]) ++ List.replicate (1 - (lg_sl ([.ref h0])).length) Slot.unset).toArray = ls at hl ⊢
  have hl : lv_has ls 1 [(0, .ref h0)] := hl
  refine lv_aload_n hx hb dX0_init_0 rfl (lv_at hl 0 rfl) ?_
  refine W.objInit hx hb hown (hts _ mo1) (hts _ mo2) (hts _ mo3) rfl (by rw [hml]; exact hl.1) rfl dX0_init_1 (Nat.le_of_ble_eq_true rfl) (Nat.le_of_ble_eq_true rfl) ?_
  refine W.eq (g2 := F0 mm 4 ls []) rfl ?_
  refine lv_aload_n hx hb dX0_init_4 rfl (lv_at hl 0 rfl) ?_
  refine z_bipush hx hb dX0_init_5 (by decide +kernel) ?_
  refine z_newa (atype := .int) (ty := .int) (cA := cI) (a0 := (12, .inl (fA z0))) (N' := 12) hx hb (hts _ ma_int) rfl hK 0 rfl hP hD hS hA (fun _ => rfl) ⟨by decide, by decide⟩ (by decide) (by decide) (Nat.le_of_ble_eq_true rfl) (Nat.le_of_ble_eq_true rfl) dX0_init_7 (fun q1 H hP hD hS => ?_)
  have hP : va_P DD vwCl [(h0, .inr (0, [.null, .int 0, .int 0, .null, .null, .null, .null, .int 0, .int 0, .null, .null, .null])), (q1, .inl (cI, 12, .inl (fA z0)))] H := hP
  have hD : va_D A [(h0, .inr (0, [.null, .int 0, .int 0, .null, .null, .null, .null, .int 0, .int 0, .null, .null, .null])), (q1, .inl (cI, 12, .inl (fA z0)))] := hD
  refine va_putF (D := DD) (ci := 0) (v := .ref q1) (ty := .array .int) (C := RX0) (T := TX0) (N := 12) hx hb hts hin tyX0 tyX0_ok nmX0 hown hK hP hD hS 0 rfl rfl 0 (by decide) (hts _ m9) (fun _ h9 => h9) rfl hin2 rfl (by decide +kernel) rfl rfl (Nat.le_of_ble_eq_true rfl) dX0_init_9 (fun H locs hP hD hS => ?_)
  have hP : va_P DD vwCl [(h0, .inr (0, [.ref q1, .int 0, .int 0, .null, .null, .null, .null, .int 0, .int 0, .null, .null, .null])), (q1, .inl (cI, 12, .inl (fA z0)))] H := hP
  have hD : va_D A [(h0, .inr (0, [.ref q1, .int 0, .int 0, .null, .null, .null, .null, .int 0, .int 0, .null, .null, .null])), (q1, .inl (cI, 12, .inl (fA z0)))] := hD
  refine lv_aload_n hx hb dX0_init_12 rfl (lv_at hl 0 rfl) ?_
  refine z_bipush hx hb dX0_init_13 (by decide +kernel) ?_
  refine z_newa (atype := .int) (ty := .int) (cA := cI) (a0 := (48, .inl (fA z0))) (N' := 48) hx hb (hts _ ma_int) rfl hK 0 rfl hP hD hS hA (fun _ => rfl) ⟨by decide, by decide⟩ (by decide) (by decide) (Nat.le_of_ble_eq_true rfl) (Nat.le_of_ble_eq_true rfl) dX0_init_15 (fun q2 H hP hD hS => ?_)
  have hP : va_P DD vwCl [(h0, .inr (0, [.ref q1, .int 0, .int 0, .null, .null, .null, .null, .int 0, .int 0, .null, .null, .null])), (q1, .inl (cI, 12, .inl (fA z0))), (q2, .inl (cI, 48, .inl (fA z0)))] H := hP
  have hD : va_D A [(h0, .inr (0, [.ref q1, .int 0, .int 0, .null, .null, .null, .null, .int 0, .int 0, .null, .null, .null])), (q1, .inl (cI, 12, .inl (fA z0))), (q2, .inl (cI, 48, .inl (fA z0)))] := hD
  refine va_putF (D := DD) (ci := 0) (v := .ref q2) (ty := .array .int) (C := RX0) (T := TX0) (N := 12) hx hb hts hin tyX0 tyX0_ok nmX0 hown hK hP hD hS 0 rfl rfl 3 (by decide) (hts _ m13) (fun _ h9 => h9) rfl hin2 rfl (by decide +kernel) rfl rfl (Nat.le_of_ble_eq_true rfl) dX0_init_17 (fun H locs hP hD hS => ?_)
  have hP : va_P DD vwCl [(h0, .inr (0, [.ref q1, .int 0, .int 0, .ref q2, .null, .null, .null, .int 0, .int 0, .null, .null, .null])), (q1, .inl (cI, 12, .inl (fA z0))), (q2, .inl (cI, 48, .inl (fA z0)))] H := hP
  have hD : va_D A [(h0, .inr (0, [.ref q1, .int 0, .int 0, .ref q2, .null, .null, .null, .int 0, .int 0, .null, .null, .null])), (q1, .inl (cI, 12, .inl (fA z0))), (q2, .inl (cI, 48, .inl (fA z0)))] := hD
  refine lv_aload_n hx hb dX0_init_20 rfl (lv_at hl 0 rfl) ?_
  refine z_bipush hx hb dX0_init_21 (by decide +kernel) ?_
  refine z_newa (atype := .int) (ty := .int) (cA := cI) (a0 := (48, .inl (fA z0))) (N' := 48) hx hb (hts _ ma_int) rfl hK 0 rfl hP hD hS hA (fun _ => rfl) ⟨by decide, by decide⟩ (by decide) (by decide) (Nat.le_of_ble_eq_true rfl) (Nat.le_of_ble_eq_true rfl) dX0_init_23 (fun q3 H hP hD hS => ?_)
  have hP : va_P DD vwCl [(h0, .inr (0, [.ref q1, .int 0, .int 0, .ref q2, .null, .null, .null, .int 0, .int 0, .null, .null, .null])), (q1, .inl (cI, 12, .inl (fA z0))), (q2, .inl (cI, 48, .inl (fA z0))), (q3, .inl (cI, 48, .inl (fA z0)))] H := hP
  have hD : va_D A [(h0, .inr (0, [.ref q1, .int 0, .int 0, .ref q2, .null, .null, .null, .int 0, .int 0, .null, .null, .null])), (q1, .inl (cI, 12, .inl (fA z0))), (q2, .inl (cI, 48, .inl (fA z0))), (q3, .inl (cI, 48, .inl (fA z0)))] := hD
  refine va_putF (D := DD) (ci := 0) (v := .ref q3) (ty := .array .int) (C := RX0) (T := TX0) (N := 12) hx hb hts hin tyX0 tyX0_ok nmX0 hown hK hP hD hS 0 rfl rfl 4 (by decide) (hts _ m16) (fun _ h9 => h9) rfl hin2 rfl (by decide +kernel) rfl rfl (Nat.le_of_ble_eq_true rfl) dX0_init_25 (fun H locs hP hD hS => ?_)
  have hP : va_P DD vwCl [(h0, .inr (0, [.ref q1, .int 0, .int 0, .ref q2, .ref q3, .null, .null, .int 0, .int 0, .null, .null, .null])), (q1, .inl (cI, 12, .inl (fA z0))), (q2, .inl (cI, 48, .inl (fA z0))), (q3, .inl (cI, 48, .inl (fA z0)))] H := hP
  have hD : va_D A [(h0, .inr (0, [.ref q1, .int 0, .int 0, .ref q2, .ref q3, .null, .null, .int 0, .int 0, .null, .null, .null])), (q1, .inl (cI, 12, .inl (fA z0))), (q2, .inl (cI, 48, .inl (fA z0))), (q3, .inl (cI, 48, .inl (fA z0)))] := hD
  refine lv_aload_n hx hb dX0_init_28 rfl (lv_at hl 0 rfl) ?_
  refine z_bipush hx hb dX0_init_29 (by decide +kernel) ?_
  refine z_newa (atype := .int) (ty := .int) (cA := cI) (a0 := (48, .inl (fA z0))) (N' := 48) hx hb (hts _ ma_int) rfl hK 0 rfl hP hD hS hA (fun _ => rfl) ⟨by decide, by decide⟩ (by decide) (by decide) (Nat.le_of_ble_eq_true rfl) (Nat.le_of_ble_eq_true rfl) dX0_init_31 (fun q4 H hP hD hS => ?_)
  have hP : va_P DD vwCl [(h0, .inr (0, [.ref q1, .int 0, .int 0, .ref q2, .ref q3, .null, .null, .int 0, .int 0, .null, .null, .null])), (q1, .inl (cI, 12, .inl (fA z0))), (q2, .inl (cI, 48, .inl (fA z0))), (q3, .inl (cI, 48, .inl (fA z0))), (q4, .inl (cI, 48, .inl (fA z0)))] H := hP
  have hD : va_D A [(h0, .inr (0, [.ref q1, .int 0, .int 0, .ref q2, .ref q3, .null, .null, .int 0, .int 0, .null, .null, .null])), (q1, .inl (cI, 12, .inl (fA z0))), (q2, .inl (cI, 48, .inl (fA z0))), (q3, .inl (cI, 48, .inl (fA z0))), (q4, .inl (cI, 48, .inl (fA z0)))] := hD
  refine va_putF (D := DD) (ci := 0) (v := .ref q4) (ty := .array .int) (C := RX0) (T := TX0) (N := 12) hx hb hts hin tyX0 tyX0_ok nmX0 hown hK hP hD hS 0 rfl rfl 5 (by decide) (hts _ m19) (fun _ h9 => h9) rfl hin2 rfl (by decide +kernel) rfl rfl (Nat.le_of_ble_eq_true rfl) dX0_init_33 (fun H locs hP hD hS => ?_)
  have hP : va_P DD vwCl [(h0, .inr (0, [.ref q1, .int 0, .int 0, .ref q2, .ref q3, .ref q4, .null, .int 0, .int 0, .null, .null, .null])), (q1, .inl (cI, 12, .inl (fA z0))), (q2, .inl (cI, 48, .inl (fA z0))), (q3, .inl (cI, 48, .inl (fA z0))), (q4, .inl (cI, 48, .inl (fA z0)))] H := hP
  have hD : va_D A [(h0, .inr (0, [.ref q1, .int 0, .int 0, .ref q2, .ref q3, .ref q4, .null, .int 0, .int 0, .null, .null, .null])), (q1, .inl (cI, 12, .inl (fA z0))), (q2, .inl (cI, 48, .inl (fA z0))), (q3, .inl (cI, 48, .inl (fA z0))), (q4, .inl (cI, 48, .inl (fA z0)))] := hD
  refine lv_aload_n hx hb dX0_init_36 rfl (lv_at hl 0 rfl) ?_
  refine z_bipush hx hb dX0_init_37 (by decide +kernel) ?_
  refine z_newa (atype := .boolean) (ty := .boolean) (cA := cZ) (a0 := (48, .inl (fA z0))) (N' := 48) hx hb (hts _ ma_boolean) rfl hK 1 rfl hP hD hS hA (fun _ => rfl) ⟨by decide, by decide⟩ (by decide) (by decide) (Nat.le_of_ble_eq_true rfl) (Nat.le_of_ble_eq_true rfl) dX0_init_39 (fun q5 H hP hD hS => ?_)
  have hP : va_P DD vwCl [(h0, .inr (0, [.ref q1, .int 0, .int 0, .ref q2, .ref q3, .ref q4, .null, .int 0, .int 0, .null, .null, .null])), (q1, .inl (cI, 12, .inl (fA z0))), (q2, .inl (cI, 48, .inl (fA z0))), (q3, .inl (cI, 48, .inl (fA z0))), (q4, .inl (cI, 48, .inl (fA z0))), (q5, .inl (cZ, 48, .inl (fA z0)))] H := hP
  have hD : va_D A [(h0, .inr (0, [.ref q1, .int 0, .int 0, .ref q2, .ref q3, .ref q4, .null, .int 0, .int 0, .null, .null, .null])), (q1, .inl (cI, 12, .inl (fA z0))), (q2, .inl (cI, 48, .inl (fA z0))), (q3, .inl (cI, 48, .inl (fA z0))), (q4, .inl (cI, 48, .inl (fA z0))), (q5, .inl (cZ, 48, .inl (fA z0)))] := hD
  refine va_putF (D := DD) (ci := 0) (v := .ref q5) (ty := .array .boolean) (C := RX0) (T := TX0) (N := 12) hx hb hts hin tyX0 tyX0_ok nmX0 hown hK hP hD hS 0 rfl rfl 6 (by decide) (hts _ m22) (fun _ h9 => h9) rfl hin2 rfl (by decide +kernel) rfl rfl (Nat.le_of_ble_eq_true rfl) dX0_init_41 (fun H locs hP hD hS => ?_)
  have hP : va_P DD vwCl [(h0, .inr (0, [.ref q1, .int 0, .int 0, .ref q2, .ref q3, .ref q4, .ref q5, .int 0, .int 0, .null, .null, .null])), (q1, .inl (cI, 12, .inl (fA z0))), (q2, .inl (cI, 48, .inl (fA z0))), (q3, .inl (cI, 48, .inl (fA z0))), (q4, .inl (cI, 48, .inl (fA z0))), (q5, .inl (cZ, 48, .inl (fA z0)))] H := hP
  have hD : va_D A [(h0, .inr (0, [.ref q1, .int 0, .int 0, .ref q2, .ref q3, .ref q4, .ref q5, .int 0, .int 0, .null, .null, .null])), (q1, .inl (cI, 12, .inl (fA z0))), (q2, .inl (cI, 48, .inl (fA z0))), (q3, .inl (cI, 48, .inl (fA z0))), (q4, .inl (cI, 48, .inl (fA z0))), (q5, .inl (cZ, 48, .inl (fA z0)))] := hD
  refine lv_aload_n hx hb dX0_init_44 rfl (lv_at hl 0 rfl) ?_
  refine z_bipush hx hb dX0_init_45 (by decide +kernel) ?_
  refine z_newa (atype := .boolean) (ty := .boolean) (cA := cZ) (a0 := (49, .inl (fA z0))) (N' := 49) hx hb (hts _ ma_boolean) rfl hK 1 rfl hP hD hS hA (fun _ => rfl) ⟨by decide, by decide⟩ (by decide) (by decide) (Nat.le_of_ble_eq_true rfl) (Nat.le_of_ble_eq_true rfl) dX0_init_47 (fun q6 H hP hD hS => ?_)
  have hP : va_P DD vwCl [(h0, .inr (0, [.ref q1, .int 0, .int 0, .ref q2, .ref q3, .ref q4, .ref q5, .int 0, .int 0, .null, .null, .null])), (q1, .inl (cI, 12, .inl (fA z0))), (q2, .inl (cI, 48, .inl (fA z0))), (q3, .inl (cI, 48, .inl (fA z0))), (q4, .inl (cI, 48, .inl (fA z0))), (q5, .inl (cZ, 48, .inl (fA z0))), (q6, .inl (cZ, 49, .inl (fA z0)))] H := hP
  have hD : va_D A [(h0, .inr (0, [.ref q1, .int 0, .int 0, .ref q2, .ref q3, .ref q4, .ref q5, .int 0, .int 0, .null, .null, .null])), (q1, .inl (cI, 12, .inl (fA z0))), (q2, .inl (cI, 48, .inl (fA z0))), (q3, .inl (cI, 48, .inl (fA z0))), (q4, .inl (cI, 48, .inl (fA z0))), (q5, .inl (cZ, 48, .inl (fA z0))), (q6, .inl (cZ, 49, .inl (fA z0)))] := hD
  refine va_putF (D := DD) (ci := 0) (v := .ref q6) (ty := .array .boolean) (C := RX0) (T := TX0) (N := 12) hx hb hts hin tyX0 tyX0_ok nmX0 hown hK hP hD hS 0 rfl rfl 9 (by decide) (hts _ m26) (fun _ h9 => h9) rfl hin2 rfl (by decide +kernel) rfl rfl (Nat.le_of_ble_eq_true rfl) dX0_init_49 (fun H locs hP hD hS => ?_)
  have hP : va_P DD vwCl [(h0, .inr (0, [.ref q1, .int 0, .int 0, .ref q2, .ref q3, .ref q4, .ref q5, .int 0, .int 0, .ref q6, .null, .null])), (q1, .inl (cI, 12, .inl (fA z0))), (q2, .inl (cI, 48, .inl (fA z0))), (q3, .inl (cI, 48, .inl (fA z0))), (q4, .inl (cI, 48, .inl (fA z0))), (q5, .inl (cZ, 48, .inl (fA z0))), (q6, .inl (cZ, 49, .inl (fA z0)))] H := hP
  have hD : va_D A [(h0, .inr (0, [.ref q1, .int 0, .int 0, .ref q2, .ref q3, .ref q4, .ref q5, .int 0, .int 0, .ref q6, .null, .null])), (q1, .inl (cI, 12, .inl (fA z0))), (q2, .inl (cI, 48, .inl (fA z0))), (q3, .inl (cI, 48, .inl (fA z0))), (q4, .inl (cI, 48, .inl (fA z0))), (q5, .inl (cZ, 48, .inl (fA z0))), (q6, .inl (cZ, 49, .inl (fA z0)))] := hD
  refine lv_aload_n hx hb dX0_init_52 rfl (lv_at hl 0 rfl) ?_
  refine z_bipush hx hb dX0_init_53 (by decide +kernel) ?_
  refine z_newa (atype := .int) (ty := .int) (cA := cI) (a0 := (49, .inl (fA z0))) (N' := 49) hx hb (hts _ ma_int) rfl hK 0 rfl hP hD hS hA (fun _ => rfl) ⟨by decide, by decide⟩ (by decide) (by decide) (Nat.le_of_ble_eq_true rfl) (Nat.le_of_ble_eq_true rfl) dX0_init_55 (fun q7 H hP hD hS => ?_)
  have hP : va_P DD vwCl [(h0, .inr (0, [.ref q1, .int 0, .int 0, .ref q2, .ref q3, .ref q4, .ref q5, .int 0, .int 0, .ref q6, .null, .null])), (q1, .inl (cI, 12, .inl (fA z0))), (q2, .inl (cI, 48, .inl (fA z0))), (q3, .inl (cI, 48, .inl (fA z0))), (q4, .inl (cI, 48, .inl (fA z0))), (q5, .inl (cZ, 48, .inl (fA z0))), (q6, .inl (cZ, 49, .inl (fA z0))), (q7, .inl (cI, 49, .inl (fA z0)))] H := hP
  have hD : va_D A [(h0, .inr (0, [.ref q1, .int 0, .int 0, .ref q2, .ref q3, .ref q4, .ref q5, .int 0, .int 0, .ref q6, .null, .null])), (q1, .inl (cI, 12, .inl (fA z0))), (q2, .inl (cI, 48, .inl (fA z0))), (q3, .inl (cI, 48, .inl (fA z0))), (q4, .inl (cI, 48, .inl (fA z0))), (q5, .inl (cZ, 48, .inl (fA z0))), (q6, .inl (cZ, 49, .inl (fA z0))), (q7, .inl (cI, 49, .inl (fA z0)))] := hD
  refine va_putF (D := DD) (ci := 0) (v := .ref q7) (ty := .array .int) (C := RX0) (T := TX0) (N := 12) hx hb hts hin tyX0 tyX0_ok nmX0 hown hK hP hD hS 0 rfl rfl 10 (by decide) (hts _ m29) (fun _ h9 => h9) rfl hin2 rfl (by decide +kernel) rfl rfl (Nat.le_of_ble_eq_true rfl) dX0_init_57 (fun H locs hP hD hS => ?_)
  have hP : va_P DD vwCl [(h0, .inr (0, [.ref q1, .int 0, .int 0, .ref q2, .ref q3, .ref q4, .ref q5, .int 0, .int 0, .ref q6, .ref q7, .null])), (q1, .inl (cI, 12, .inl (fA z0))), (q2, .inl (cI, 48, .inl (fA z0))), (q3, .inl (cI, 48, .inl (fA z0))), (q4, .inl (cI, 48, .inl (fA z0))), (q5, .inl (cZ, 48, .inl (fA z0))), (q6, .inl (cZ, 49, .inl (fA z0))), (q7, .inl (cI, 49, .inl (fA z0)))] H := hP
  have hD : va_D A [(h0, .inr (0, [.ref q1, .int 0, .int 0, .ref q2, .ref q3, .ref q4, .ref q5, .int 0, .int 0, .ref q6, .ref q7, .null])), (q1, .inl (cI, 12, .inl (fA z0))), (q2, .inl (cI, 48, .inl (fA z0))), (q3, .inl (cI, 48, .inl (fA z0))), (q4, .inl (cI, 48, .inl (fA z0))), (q5, .inl (cZ, 48, .inl (fA z0))), (q6, .inl (cZ, 49, .inl (fA z0))), (q7, .inl (cI, 49, .inl (fA z0)))] := hD
  refine lv_aload_n hx hb dX0_init_60 rfl (lv_at hl 0 rfl) ?_
  refine z_bipush hx hb dX0_init_61 (by decide +kernel) ?_
  refine z_newa (atype := .int) (ty := .int) (cA := cI) (a0 := (49, .inl (fA z0))) (N' := 49) hx hb (hts _ ma_int) rfl hK 0 rfl hP hD hS hA (fun _ => rfl) ⟨by decide, by decide⟩ (by decide) (by decide) (Nat.le_of_ble_eq_true rfl) (Nat.le_of_ble_eq_true rfl) dX0_init_63 (fun q8 H hP hD hS => ?_)
  have hP : va_P DD vwCl [(h0, .inr (0, [.ref q1, .int 0, .int 0, .ref q2, .ref q3, .ref q4, .ref q5, .int 0, .int 0, .ref q6, .ref q7, .null])), (q1, .inl (cI, 12, .inl (fA z0))), (q2, .inl (cI, 48, .inl (fA z0))), (q3, .inl (cI, 48, .inl (fA z0))), (q4, .inl (cI, 48, .inl (fA z0))), (q5, .inl (cZ, 48, .inl (fA z0))), (q6, .inl (cZ, 49, .inl (fA z0))), (q7, .inl (cI, 49, .inl (fA z0))), (q8, .inl (cI, 49, .inl (fA z0)))] H := hP
  have hD : va_D A [(h0, .inr (0, [.ref q1, .int 0, .int 0, .ref q2, .ref q3, .ref q4, .ref q5, .int 0, .int 0, .ref q6, .ref q7, .null])), (q1, .inl (cI, 12, .inl (fA z0))), (q2, .inl (cI, 48, .inl (fA z0))), (q3, .inl (cI, 48, .inl (fA z0))), (q4, .inl (cI, 48, .inl (fA z0))), (q5, .inl (cZ, 48, .inl (fA z0))), (q6, .inl (cZ, 49, .inl (fA z0))), (q7, .inl (cI, 49, .inl (fA z0))), (q8, .inl (cI, 49, .inl (fA z0)))] := hD
  refine va_putF (D := DD) (ci := 0) (v := .ref q8) (ty := .array .int) (C := RX0) (T := TX0) (N := 12) hx hb hts hin tyX0 tyX0_ok nmX0 hown hK hP hD hS 0 rfl rfl 11 (by decide) (hts _ m32) (fun _ h9 => h9) rfl hin2 rfl (by decide +kernel) rfl rfl (Nat.le_of_ble_eq_true rfl) dX0_init_65 (fun H locs hP hD hS => ?_)
  have hP : va_P DD vwCl [(h0, .inr (0, [.ref q1, .int 0, .int 0, .ref q2, .ref q3, .ref q4, .ref q5, .int 0, .int 0, .ref q6, .ref q7, .ref q8])), (q1, .inl (cI, 12, .inl (fA z0))), (q2, .inl (cI, 48, .inl (fA z0))), (q3, .inl (cI, 48, .inl (fA z0))), (q4, .inl (cI, 48, .inl (fA z0))), (q5, .inl (cZ, 48, .inl (fA z0))), (q6, .inl (cZ, 49, .inl (fA z0))), (q7, .inl (cI, 49, .inl (fA z0))), (q8, .inl (cI, 49, .inl (fA z0)))] H := hP
  have hD : va_D A [(h0, .inr (0, [.ref q1, .int 0, .int 0, .ref q2, .ref q3, .ref q4, .ref q5, .int 0, .int 0, .ref q6, .ref q7, .ref q8])), (q1, .inl (cI, 12, .inl (fA z0))), (q2, .inl (cI, 48, .inl (fA z0))), (q3, .inl (cI, 48, .inl (fA z0))), (q4, .inl (cI, 48, .inl (fA z0))), (q5, .inl (cZ, 48, .inl (fA z0))), (q6, .inl (cZ, 49, .inl (fA z0))), (q7, .inl (cI, 49, .inl (fA z0))), (q8, .inl (cI, 49, .inl (fA z0)))] := hD
  refine lv_aload_n hx hb dX0_init_68 rfl (lv_at hl 0 rfl) ?_
  refine va_get (D := DD) (ci := 0) (v := .ref q6) (C := RX0) (T := TX0) (N := 12) hx hb hts hin hown hK hP 0 rfl rfl 9 (by decide) (hts _ m26) (fun _ h9 => h9) rfl dX0_init_69 ?_
  refine z_iconst hx hb dX0_init_72 ?_
  refine z_iconst hx hb dX0_init_73 ?_
  refine z_zast hx hb hK hP hD hS 6 1 rfl rfl (by decide) ⟨by decide, by decide⟩ (by decide +kernel) dX0_init_74 (fun H locs hP hS => ?_)
  have hP : va_P DD vwCl [(h0, .inr (0, [.ref q1, .int 0, .int 0, .ref q2, .ref q3, .ref q4, .ref q5, .int 0, .int 0, .ref q6, .ref q7, .ref q8])), (q1, .inl (cI, 12, .inl (fA z0))), (q2, .inl (cI, 48, .inl (fA z0))), (q3, .inl (cI, 48, .inl (fA z0))), (q4, .inl (cI, 48, .inl (fA z0))), (q5, .inl (cZ, 48, .inl (fA z0))), (q6, .inl (cZ, 49, .inl (fA (zup z0 0 1)))), (q7, .inl (cI, 49, .inl (fA z0))), (q8, .inl (cI, 49, .inl (fA z0)))] H := hP
  have hD9 := hD.set (p := 6) (e := .inl (cZ, 49, .inl (fA (zup z0 0 1)))) rfl
  have hD9 : va_D A [(h0, .inr (0, [.ref q1, .int 0, .int 0, .ref q2, .ref q3, .ref q4, .ref q5, .int 0, .int 0, .ref q6, .ref q7, .ref q8])), (q1, .inl (cI, 12, .inl (fA z0))), (q2, .inl (cI, 48, .inl (fA z0))), (q3, .inl (cI, 48, .inl (fA z0))), (q4, .inl (cI, 48, .inl (fA z0))), (q5, .inl (cZ, 48, .inl (fA z0))), (q6, .inl (cZ, 49, .inl (fA (zup z0 0 1)))), (q7, .inl (cI, 49, .inl (fA z0))), (q8, .inl (cI, 49, .inl (fA z0)))] := hD9
  exact W.vret hx hb hr (fun t ht hW => ⟨⟨(fun k => match k with | 0 => h0 | 1 => q1 | 2 => q2 | 3 => q3 | 4 => q4 | 5 => q5 | 6 => q6 | 7 => q7 | _ => q8), rfl, trivial, rfl, by rw [ht]; exact hP, hD9⟩, hS.F ht⟩) hS.2.2 dX0_init_75 hlocks

set_option maxHeartbeats 4000000 in
set_option maxRecDepth 100000 in
theorem c_X1_init (l : Launch) (DD : va_G) (cI cZ cJ : ClassId) (h0 sz : Nat) : Met l yX1_init wsX1_init ({ frames := 1, cells := 8, slots := 351, locals := 20 }) (va_Pc [.ref h0] (fun U => U.heap.size = sz ∧ va_P DD vwCl [(h0, .inr (1, [.int 0, .null, .int 0, .null, .null, .null, .null, .int 0, .int 0, .null, .null, .null, .int 0, .int 0, .int 0, .int 0, .long 0]))] U.heap ∧ va_K DD vwCl (kT cI cZ cJ) U ∧ va_D (fun _ => True) [(h0, .inr (1, [.int 0, .null, .int 0, .null, .null, .null, .null, .int 0, .int 0, .null, .null, .null, .int 0, .int 0, .int 0, .int 0, .long 0]))])) (va_Qv (fun (_ : Nat → Nat) => True) (fun ad t => ad 0 = h0 ∧ va_P DD vwCl (wM (gk DD ad cI cZ cJ) u0 v0) t.heap ∧ va_D (va_A [(h0, .inr (1, [.int 0, .null, .int 0, .null, .null, .null, .null, .int 0, .int 0, .null, .null, .null, .int 0, .int 0, .int 0, .int 0, .long 0]))] sz) (wM (gk DD ad cI cZ cJ) u0 v0)) (va_A [(h0, .inr (1, [.int 0, .null, .int 0, .null, .null, .null, .null, .int 0, .int 0, .null, .null, .null, .int 0, .int 0, .int 0, .int 0, .long 0]))] sz)) 8 351 (va_A [(h0, .inr (1, [.int 0, .null, .int 0, .null, .null, .null, .null, .int 0, .int 0, .null, .null, .null, .int 0, .int 0, .int 0, .int 0, .long 0]))] sz) := by
  refine Met.ofW (cc := cX1_init) (maxL := 1) (ret := none) (by decide) rfl ?_
  intro pp ee s mm args below meth cc9 s₁ B hml hv
  obtain ⟨rfl, hsz, hP, hK, hD0⟩ := hv
  have hx := B.exec
  have hb := B.bytes
  have hr := B.returns
  have hts := atoms_spec (ws := wsX1_init) B.pre
  have hown : s.vm.findClass RX1 = some mm.cls := findClass_of_methodNamed B.named
  have hlocks := B.notSynchronized
  have hin2 : meth.name = "<init>" := (name_of_methodNamed B.named B.method).1
  have hin : ∀ w ∈ wsX10, w ∈ wsX1_init := fun w h => List.mem_cons_of_mem _ (List.mem_append_right _ h)
  have m7 : Cond.fieldLink RX1 7 "TraverseBoardModel" "buffer" "[I" ∈ wsX1_init := by decide +kernel
  have m13 : Cond.fieldLink RX1 13 "TraverseBoardModel" "point" "[I" ∈ wsX1_init := by decide +kernel
  have m16 : Cond.fieldLink RX1 16 "TraverseBoardModel" "speed" "[I" ∈ wsX1_init := by decide +kernel
  have m19 : Cond.fieldLink RX1 19 "TraverseBoardModel" "leeway" "[I" ∈ wsX1_init := by decide +kernel
  have m22 : Cond.fieldLink RX1 22 "TraverseBoardModel" "isLost" "[Z" ∈ wsX1_init := by decide +kernel
  have m26 : Cond.fieldLink RX1 26 "TraverseBoardModel" "hasFix" "[Z" ∈ wsX1_init := by decide +kernel
  have m29 : Cond.fieldLink RX1 29 "TraverseBoardModel" "fixNorth" "[J" ∈ wsX1_init := by decide +kernel
  have m33 : Cond.fieldLink RX1 33 "TraverseBoardModel" "fixEast" "[J" ∈ wsX1_init := by decide +kernel
  have ma_int : Cond.arrayClass .int ∈ wsX1_init := by decide +kernel
  have ma_boolean : Cond.arrayClass .boolean ∈ wsX1_init := by decide +kernel
  have ma_long : Cond.arrayClass .long ∈ wsX1_init := by decide +kernel
  have mo1 : Cond.methodLink RX1 1 objectInit ∈ wsX1_init := by decide +kernel
  have mo2 : Cond.instanceMethod objectInit ∈ wsX1_init := by decide +kernel
  have mo3 : Cond.code objectInit ⟨#[0xb1]⟩ 1 none ∈ wsX1_init := by decide +kernel
  subst hsz
  have hD := hD0.self (sz := s.heap.size)
  generalize hAe : va_A [(h0, .inr (1, [.int 0, .null, .int 0, .null, .null, .null, .null, .int 0, .int 0, .null, .null, .null, .int 0, .int 0, .int 0, .int 0, .long 0]))] s.heap.size = A at hD ⊢
  have hA : ∀ q : Nat, s.heap.size ≤ q → A q := fun q h => by rw [← hAe]; exact Or.inr h
  have hS : va_S A s.heap s.heap [] := va_S.rf
  have hl := lv_entry ([.ref h0]) (n := 1) (Nat.le_of_ble_eq_true rfl)
  rw [lg_entry_eq]
  generalize (lg_sl ([.ref h0]) ++ List.replicate (1 - (lg_sl ([.ref h0])).length) Slot.unset).toArray = ls at hl ⊢
  have hl : lv_has ls 1 [(0, .ref h0)] := hl
  refine lv_aload_n hx hb dX1_init_0 rfl (lv_at hl 0 rfl) ?_
  refine W.objInit hx hb hown (hts _ mo1) (hts _ mo2) (hts _ mo3) rfl (by rw [hml]; exact hl.1) rfl dX1_init_1 (Nat.le_of_ble_eq_true rfl) (Nat.le_of_ble_eq_true rfl) ?_
  refine W.eq (g2 := F0 mm 4 ls []) rfl ?_
  refine lv_aload_n hx hb dX1_init_4 rfl (lv_at hl 0 rfl) ?_
  refine z_bipush hx hb dX1_init_5 (by decide +kernel) ?_
  refine z_newa (atype := .int) (ty := .int) (cA := cI) (a0 := (12, .inl (fA z0))) (N' := 12) hx hb (hts _ ma_int) rfl hK 0 rfl hP hD hS hA (fun _ => rfl) ⟨by decide, by decide⟩ (by decide) (by decide) (Nat.le_of_ble_eq_true rfl) (Nat.le_of_ble_eq_true rfl) dX1_init_7 (fun q1 H hP hD hS => ?_)
  have hP : va_P DD vwCl [(h0, .inr (1, [.int 0, .null, .int 0, .null, .null, .null, .null, .int 0, .int 0, .null, .null, .null, .int 0, .int 0, .int 0, .int 0, .long 0])), (q1, .inl (cI, 12, .inl (fA z0)))] H := hP
  have hD : va_D A [(h0, .inr (1, [.int 0, .null, .int 0, .null, .null, .null, .null, .int 0, .int 0, .null, .null, .null, .int 0, .int 0, .int 0, .int 0, .long 0])), (q1, .inl (cI, 12, .inl (fA z0)))] := hD
  refine va_putF (D := DD) (ci := 1) (v := .ref q1) (ty := .array .int) (C := RX1) (T := TX1) (N := 17) hx hb hts hin tyX1 tyX1_ok nmX1 hown hK hP hD hS 0 rfl rfl 1 (by decide) (hts _ m7) (fun _ h9 => h9) rfl hin2 rfl (by decide +kernel) rfl rfl (Nat.le_of_ble_eq_true rfl) dX1_init_9 (fun H locs hP hD hS => ?_)
  have hP : va_P DD vwCl [(h0, .inr (1, [.int 0, .ref q1, .int 0, .null, .null, .null, .null, .int 0, .int 0, .null, .null, .null, .int 0, .int 0, .int 0, .int 0, .long 0])), (q1, .inl (cI, 12, .inl (fA z0)))] H := hP
  have hD : va_D A [(h0, .inr (1, [.int 0, .ref q1, .int 0, .null, .null, .null, .null, .int 0, .int 0, .null, .null, .null, .int 0, .int 0, .int 0, .int 0, .long 0])), (q1, .inl (cI, 12, .inl (fA z0)))] := hD
  refine lv_aload_n hx hb dX1_init_12 rfl (lv_at hl 0 rfl) ?_
  refine z_bipush hx hb dX1_init_13 (by decide +kernel) ?_
  refine z_newa (atype := .int) (ty := .int) (cA := cI) (a0 := (48, .inl (fA z0))) (N' := 48) hx hb (hts _ ma_int) rfl hK 0 rfl hP hD hS hA (fun _ => rfl) ⟨by decide, by decide⟩ (by decide) (by decide) (Nat.le_of_ble_eq_true rfl) (Nat.le_of_ble_eq_true rfl) dX1_init_15 (fun q2 H hP hD hS => ?_)
  have hP : va_P DD vwCl [(h0, .inr (1, [.int 0, .ref q1, .int 0, .null, .null, .null, .null, .int 0, .int 0, .null, .null, .null, .int 0, .int 0, .int 0, .int 0, .long 0])), (q1, .inl (cI, 12, .inl (fA z0))), (q2, .inl (cI, 48, .inl (fA z0)))] H := hP
  have hD : va_D A [(h0, .inr (1, [.int 0, .ref q1, .int 0, .null, .null, .null, .null, .int 0, .int 0, .null, .null, .null, .int 0, .int 0, .int 0, .int 0, .long 0])), (q1, .inl (cI, 12, .inl (fA z0))), (q2, .inl (cI, 48, .inl (fA z0)))] := hD
  refine va_putF (D := DD) (ci := 1) (v := .ref q2) (ty := .array .int) (C := RX1) (T := TX1) (N := 17) hx hb hts hin tyX1 tyX1_ok nmX1 hown hK hP hD hS 0 rfl rfl 3 (by decide) (hts _ m13) (fun _ h9 => h9) rfl hin2 rfl (by decide +kernel) rfl rfl (Nat.le_of_ble_eq_true rfl) dX1_init_17 (fun H locs hP hD hS => ?_)
  have hP : va_P DD vwCl [(h0, .inr (1, [.int 0, .ref q1, .int 0, .ref q2, .null, .null, .null, .int 0, .int 0, .null, .null, .null, .int 0, .int 0, .int 0, .int 0, .long 0])), (q1, .inl (cI, 12, .inl (fA z0))), (q2, .inl (cI, 48, .inl (fA z0)))] H := hP
  have hD : va_D A [(h0, .inr (1, [.int 0, .ref q1, .int 0, .ref q2, .null, .null, .null, .int 0, .int 0, .null, .null, .null, .int 0, .int 0, .int 0, .int 0, .long 0])), (q1, .inl (cI, 12, .inl (fA z0))), (q2, .inl (cI, 48, .inl (fA z0)))] := hD
  refine lv_aload_n hx hb dX1_init_20 rfl (lv_at hl 0 rfl) ?_
  refine z_bipush hx hb dX1_init_21 (by decide +kernel) ?_
  refine z_newa (atype := .int) (ty := .int) (cA := cI) (a0 := (48, .inl (fA z0))) (N' := 48) hx hb (hts _ ma_int) rfl hK 0 rfl hP hD hS hA (fun _ => rfl) ⟨by decide, by decide⟩ (by decide) (by decide) (Nat.le_of_ble_eq_true rfl) (Nat.le_of_ble_eq_true rfl) dX1_init_23 (fun q3 H hP hD hS => ?_)
  have hP : va_P DD vwCl [(h0, .inr (1, [.int 0, .ref q1, .int 0, .ref q2, .null, .null, .null, .int 0, .int 0, .null, .null, .null, .int 0, .int 0, .int 0, .int 0, .long 0])), (q1, .inl (cI, 12, .inl (fA z0))), (q2, .inl (cI, 48, .inl (fA z0))), (q3, .inl (cI, 48, .inl (fA z0)))] H := hP
  have hD : va_D A [(h0, .inr (1, [.int 0, .ref q1, .int 0, .ref q2, .null, .null, .null, .int 0, .int 0, .null, .null, .null, .int 0, .int 0, .int 0, .int 0, .long 0])), (q1, .inl (cI, 12, .inl (fA z0))), (q2, .inl (cI, 48, .inl (fA z0))), (q3, .inl (cI, 48, .inl (fA z0)))] := hD
  refine va_putF (D := DD) (ci := 1) (v := .ref q3) (ty := .array .int) (C := RX1) (T := TX1) (N := 17) hx hb hts hin tyX1 tyX1_ok nmX1 hown hK hP hD hS 0 rfl rfl 4 (by decide) (hts _ m16) (fun _ h9 => h9) rfl hin2 rfl (by decide +kernel) rfl rfl (Nat.le_of_ble_eq_true rfl) dX1_init_25 (fun H locs hP hD hS => ?_)
  have hP : va_P DD vwCl [(h0, .inr (1, [.int 0, .ref q1, .int 0, .ref q2, .ref q3, .null, .null, .int 0, .int 0, .null, .null, .null, .int 0, .int 0, .int 0, .int 0, .long 0])), (q1, .inl (cI, 12, .inl (fA z0))), (q2, .inl (cI, 48, .inl (fA z0))), (q3, .inl (cI, 48, .inl (fA z0)))] H := hP
  have hD : va_D A [(h0, .inr (1, [.int 0, .ref q1, .int 0, .ref q2, .ref q3, .null, .null, .int 0, .int 0, .null, .null, .null, .int 0, .int 0, .int 0, .int 0, .long 0])), (q1, .inl (cI, 12, .inl (fA z0))), (q2, .inl (cI, 48, .inl (fA z0))), (q3, .inl (cI, 48, .inl (fA z0)))] := hD
  refine lv_aload_n hx hb dX1_init_28 rfl (lv_at hl 0 rfl) ?_
  refine z_bipush hx hb dX1_init_29 (by decide +kernel) ?_
  refine z_newa (atype := .int) (ty := .int) (cA := cI) (a0 := (48, .inl (fA z0))) (N' := 48) hx hb (hts _ ma_int) rfl hK 0 rfl hP hD hS hA (fun _ => rfl) ⟨by decide, by decide⟩ (by decide) (by decide) (Nat.le_of_ble_eq_true rfl) (Nat.le_of_ble_eq_true rfl) dX1_init_31 (fun q4 H hP hD hS => ?_)
  have hP : va_P DD vwCl [(h0, .inr (1, [.int 0, .ref q1, .int 0, .ref q2, .ref q3, .null, .null, .int 0, .int 0, .null, .null, .null, .int 0, .int 0, .int 0, .int 0, .long 0])), (q1, .inl (cI, 12, .inl (fA z0))), (q2, .inl (cI, 48, .inl (fA z0))), (q3, .inl (cI, 48, .inl (fA z0))), (q4, .inl (cI, 48, .inl (fA z0)))] H := hP
  have hD : va_D A [(h0, .inr (1, [.int 0, .ref q1, .int 0, .ref q2, .ref q3, .null, .null, .int 0, .int 0, .null, .null, .null, .int 0, .int 0, .int 0, .int 0, .long 0])), (q1, .inl (cI, 12, .inl (fA z0))), (q2, .inl (cI, 48, .inl (fA z0))), (q3, .inl (cI, 48, .inl (fA z0))), (q4, .inl (cI, 48, .inl (fA z0)))] := hD
  refine va_putF (D := DD) (ci := 1) (v := .ref q4) (ty := .array .int) (C := RX1) (T := TX1) (N := 17) hx hb hts hin tyX1 tyX1_ok nmX1 hown hK hP hD hS 0 rfl rfl 5 (by decide) (hts _ m19) (fun _ h9 => h9) rfl hin2 rfl (by decide +kernel) rfl rfl (Nat.le_of_ble_eq_true rfl) dX1_init_33 (fun H locs hP hD hS => ?_)
  have hP : va_P DD vwCl [(h0, .inr (1, [.int 0, .ref q1, .int 0, .ref q2, .ref q3, .ref q4, .null, .int 0, .int 0, .null, .null, .null, .int 0, .int 0, .int 0, .int 0, .long 0])), (q1, .inl (cI, 12, .inl (fA z0))), (q2, .inl (cI, 48, .inl (fA z0))), (q3, .inl (cI, 48, .inl (fA z0))), (q4, .inl (cI, 48, .inl (fA z0)))] H := hP
  have hD : va_D A [(h0, .inr (1, [.int 0, .ref q1, .int 0, .ref q2, .ref q3, .ref q4, .null, .int 0, .int 0, .null, .null, .null, .int 0, .int 0, .int 0, .int 0, .long 0])), (q1, .inl (cI, 12, .inl (fA z0))), (q2, .inl (cI, 48, .inl (fA z0))), (q3, .inl (cI, 48, .inl (fA z0))), (q4, .inl (cI, 48, .inl (fA z0)))] := hD
  refine lv_aload_n hx hb dX1_init_36 rfl (lv_at hl 0 rfl) ?_
  refine z_bipush hx hb dX1_init_37 (by decide +kernel) ?_
  refine z_newa (atype := .boolean) (ty := .boolean) (cA := cZ) (a0 := (48, .inl (fA z0))) (N' := 48) hx hb (hts _ ma_boolean) rfl hK 1 rfl hP hD hS hA (fun _ => rfl) ⟨by decide, by decide⟩ (by decide) (by decide) (Nat.le_of_ble_eq_true rfl) (Nat.le_of_ble_eq_true rfl) dX1_init_39 (fun q5 H hP hD hS => ?_)
  have hP : va_P DD vwCl [(h0, .inr (1, [.int 0, .ref q1, .int 0, .ref q2, .ref q3, .ref q4, .null, .int 0, .int 0, .null, .null, .null, .int 0, .int 0, .int 0, .int 0, .long 0])), (q1, .inl (cI, 12, .inl (fA z0))), (q2, .inl (cI, 48, .inl (fA z0))), (q3, .inl (cI, 48, .inl (fA z0))), (q4, .inl (cI, 48, .inl (fA z0))), (q5, .inl (cZ, 48, .inl (fA z0)))] H := hP
  have hD : va_D A [(h0, .inr (1, [.int 0, .ref q1, .int 0, .ref q2, .ref q3, .ref q4, .null, .int 0, .int 0, .null, .null, .null, .int 0, .int 0, .int 0, .int 0, .long 0])), (q1, .inl (cI, 12, .inl (fA z0))), (q2, .inl (cI, 48, .inl (fA z0))), (q3, .inl (cI, 48, .inl (fA z0))), (q4, .inl (cI, 48, .inl (fA z0))), (q5, .inl (cZ, 48, .inl (fA z0)))] := hD
  refine va_putF (D := DD) (ci := 1) (v := .ref q5) (ty := .array .boolean) (C := RX1) (T := TX1) (N := 17) hx hb hts hin tyX1 tyX1_ok nmX1 hown hK hP hD hS 0 rfl rfl 6 (by decide) (hts _ m22) (fun _ h9 => h9) rfl hin2 rfl (by decide +kernel) rfl rfl (Nat.le_of_ble_eq_true rfl) dX1_init_41 (fun H locs hP hD hS => ?_)
  have hP : va_P DD vwCl [(h0, .inr (1, [.int 0, .ref q1, .int 0, .ref q2, .ref q3, .ref q4, .ref q5, .int 0, .int 0, .null, .null, .null, .int 0, .int 0, .int 0, .int 0, .long 0])), (q1, .inl (cI, 12, .inl (fA z0))), (q2, .inl (cI, 48, .inl (fA z0))), (q3, .inl (cI, 48, .inl (fA z0))), (q4, .inl (cI, 48, .inl (fA z0))), (q5, .inl (cZ, 48, .inl (fA z0)))] H := hP
  have hD : va_D A [(h0, .inr (1, [.int 0, .ref q1, .int 0, .ref q2, .ref q3, .ref q4, .ref q5, .int 0, .int 0, .null, .null, .null, .int 0, .int 0, .int 0, .int 0, .long 0])), (q1, .inl (cI, 12, .inl (fA z0))), (q2, .inl (cI, 48, .inl (fA z0))), (q3, .inl (cI, 48, .inl (fA z0))), (q4, .inl (cI, 48, .inl (fA z0))), (q5, .inl (cZ, 48, .inl (fA z0)))] := hD
  refine lv_aload_n hx hb dX1_init_44 rfl (lv_at hl 0 rfl) ?_
  refine z_bipush hx hb dX1_init_45 (by decide +kernel) ?_
  refine z_newa (atype := .boolean) (ty := .boolean) (cA := cZ) (a0 := (49, .inl (fA z0))) (N' := 49) hx hb (hts _ ma_boolean) rfl hK 1 rfl hP hD hS hA (fun _ => rfl) ⟨by decide, by decide⟩ (by decide) (by decide) (Nat.le_of_ble_eq_true rfl) (Nat.le_of_ble_eq_true rfl) dX1_init_47 (fun q6 H hP hD hS => ?_)
  have hP : va_P DD vwCl [(h0, .inr (1, [.int 0, .ref q1, .int 0, .ref q2, .ref q3, .ref q4, .ref q5, .int 0, .int 0, .null, .null, .null, .int 0, .int 0, .int 0, .int 0, .long 0])), (q1, .inl (cI, 12, .inl (fA z0))), (q2, .inl (cI, 48, .inl (fA z0))), (q3, .inl (cI, 48, .inl (fA z0))), (q4, .inl (cI, 48, .inl (fA z0))), (q5, .inl (cZ, 48, .inl (fA z0))), (q6, .inl (cZ, 49, .inl (fA z0)))] H := hP
  have hD : va_D A [(h0, .inr (1, [.int 0, .ref q1, .int 0, .ref q2, .ref q3, .ref q4, .ref q5, .int 0, .int 0, .null, .null, .null, .int 0, .int 0, .int 0, .int 0, .long 0])), (q1, .inl (cI, 12, .inl (fA z0))), (q2, .inl (cI, 48, .inl (fA z0))), (q3, .inl (cI, 48, .inl (fA z0))), (q4, .inl (cI, 48, .inl (fA z0))), (q5, .inl (cZ, 48, .inl (fA z0))), (q6, .inl (cZ, 49, .inl (fA z0)))] := hD
  refine va_putF (D := DD) (ci := 1) (v := .ref q6) (ty := .array .boolean) (C := RX1) (T := TX1) (N := 17) hx hb hts hin tyX1 tyX1_ok nmX1 hown hK hP hD hS 0 rfl rfl 9 (by decide) (hts _ m26) (fun _ h9 => h9) rfl hin2 rfl (by decide +kernel) rfl rfl (Nat.le_of_ble_eq_true rfl) dX1_init_49 (fun H locs hP hD hS => ?_)
  have hP : va_P DD vwCl [(h0, .inr (1, [.int 0, .ref q1, .int 0, .ref q2, .ref q3, .ref q4, .ref q5, .int 0, .int 0, .ref q6, .null, .null, .int 0, .int 0, .int 0, .int 0, .long 0])), (q1, .inl (cI, 12, .inl (fA z0))), (q2, .inl (cI, 48, .inl (fA z0))), (q3, .inl (cI, 48, .inl (fA z0))), (q4, .inl (cI, 48, .inl (fA z0))), (q5, .inl (cZ, 48, .inl (fA z0))), (q6, .inl (cZ, 49, .inl (fA z0)))] H := hP
  have hD : va_D A [(h0, .inr (1, [.int 0, .ref q1, .int 0, .ref q2, .ref q3, .ref q4, .ref q5, .int 0, .int 0, .ref q6, .null, .null, .int 0, .int 0, .int 0, .int 0, .long 0])), (q1, .inl (cI, 12, .inl (fA z0))), (q2, .inl (cI, 48, .inl (fA z0))), (q3, .inl (cI, 48, .inl (fA z0))), (q4, .inl (cI, 48, .inl (fA z0))), (q5, .inl (cZ, 48, .inl (fA z0))), (q6, .inl (cZ, 49, .inl (fA z0)))] := hD
  refine lv_aload_n hx hb dX1_init_52 rfl (lv_at hl 0 rfl) ?_
  refine z_bipush hx hb dX1_init_53 (by decide +kernel) ?_
  refine z_newa (atype := .long) (ty := .long) (cA := cJ) (a0 := (49, .inr (.inl (fJ z0)))) (N' := 49) hx hb (hts _ ma_long) rfl hK 2 rfl hP hD hS hA (fun _ => rfl) ⟨by decide, by decide⟩ (by decide) (by decide) (Nat.le_of_ble_eq_true rfl) (Nat.le_of_ble_eq_true rfl) dX1_init_55 (fun q7 H hP hD hS => ?_)
  have hP : va_P DD vwCl [(h0, .inr (1, [.int 0, .ref q1, .int 0, .ref q2, .ref q3, .ref q4, .ref q5, .int 0, .int 0, .ref q6, .null, .null, .int 0, .int 0, .int 0, .int 0, .long 0])), (q1, .inl (cI, 12, .inl (fA z0))), (q2, .inl (cI, 48, .inl (fA z0))), (q3, .inl (cI, 48, .inl (fA z0))), (q4, .inl (cI, 48, .inl (fA z0))), (q5, .inl (cZ, 48, .inl (fA z0))), (q6, .inl (cZ, 49, .inl (fA z0))), (q7, .inl (cJ, 49, .inr (.inl (fJ z0))))] H := hP
  have hD : va_D A [(h0, .inr (1, [.int 0, .ref q1, .int 0, .ref q2, .ref q3, .ref q4, .ref q5, .int 0, .int 0, .ref q6, .null, .null, .int 0, .int 0, .int 0, .int 0, .long 0])), (q1, .inl (cI, 12, .inl (fA z0))), (q2, .inl (cI, 48, .inl (fA z0))), (q3, .inl (cI, 48, .inl (fA z0))), (q4, .inl (cI, 48, .inl (fA z0))), (q5, .inl (cZ, 48, .inl (fA z0))), (q6, .inl (cZ, 49, .inl (fA z0))), (q7, .inl (cJ, 49, .inr (.inl (fJ z0))))] := hD
  refine va_putF (D := DD) (ci := 1) (v := .ref q7) (ty := .array .long) (C := RX1) (T := TX1) (N := 17) hx hb hts hin tyX1 tyX1_ok nmX1 hown hK hP hD hS 0 rfl rfl 10 (by decide) (hts _ m29) (fun _ h9 => h9) rfl hin2 rfl (by decide +kernel) rfl rfl (Nat.le_of_ble_eq_true rfl) dX1_init_57 (fun H locs hP hD hS => ?_)
  have hP : va_P DD vwCl [(h0, .inr (1, [.int 0, .ref q1, .int 0, .ref q2, .ref q3, .ref q4, .ref q5, .int 0, .int 0, .ref q6, .ref q7, .null, .int 0, .int 0, .int 0, .int 0, .long 0])), (q1, .inl (cI, 12, .inl (fA z0))), (q2, .inl (cI, 48, .inl (fA z0))), (q3, .inl (cI, 48, .inl (fA z0))), (q4, .inl (cI, 48, .inl (fA z0))), (q5, .inl (cZ, 48, .inl (fA z0))), (q6, .inl (cZ, 49, .inl (fA z0))), (q7, .inl (cJ, 49, .inr (.inl (fJ z0))))] H := hP
  have hD : va_D A [(h0, .inr (1, [.int 0, .ref q1, .int 0, .ref q2, .ref q3, .ref q4, .ref q5, .int 0, .int 0, .ref q6, .ref q7, .null, .int 0, .int 0, .int 0, .int 0, .long 0])), (q1, .inl (cI, 12, .inl (fA z0))), (q2, .inl (cI, 48, .inl (fA z0))), (q3, .inl (cI, 48, .inl (fA z0))), (q4, .inl (cI, 48, .inl (fA z0))), (q5, .inl (cZ, 48, .inl (fA z0))), (q6, .inl (cZ, 49, .inl (fA z0))), (q7, .inl (cJ, 49, .inr (.inl (fJ z0))))] := hD
  refine lv_aload_n hx hb dX1_init_60 rfl (lv_at hl 0 rfl) ?_
  refine z_bipush hx hb dX1_init_61 (by decide +kernel) ?_
  refine z_newa (atype := .long) (ty := .long) (cA := cJ) (a0 := (49, .inr (.inl (fJ z0)))) (N' := 49) hx hb (hts _ ma_long) rfl hK 2 rfl hP hD hS hA (fun _ => rfl) ⟨by decide, by decide⟩ (by decide) (by decide) (Nat.le_of_ble_eq_true rfl) (Nat.le_of_ble_eq_true rfl) dX1_init_63 (fun q8 H hP hD hS => ?_)
  have hP : va_P DD vwCl [(h0, .inr (1, [.int 0, .ref q1, .int 0, .ref q2, .ref q3, .ref q4, .ref q5, .int 0, .int 0, .ref q6, .ref q7, .null, .int 0, .int 0, .int 0, .int 0, .long 0])), (q1, .inl (cI, 12, .inl (fA z0))), (q2, .inl (cI, 48, .inl (fA z0))), (q3, .inl (cI, 48, .inl (fA z0))), (q4, .inl (cI, 48, .inl (fA z0))), (q5, .inl (cZ, 48, .inl (fA z0))), (q6, .inl (cZ, 49, .inl (fA z0))), (q7, .inl (cJ, 49, .inr (.inl (fJ z0)))), (q8, .inl (cJ, 49, .inr (.inl (fJ z0))))] H := hP
  have hD : va_D A [(h0, .inr (1, [.int 0, .ref q1, .int 0, .ref q2, .ref q3, .ref q4, .ref q5, .int 0, .int 0, .ref q6, .ref q7, .null, .int 0, .int 0, .int 0, .int 0, .long 0])), (q1, .inl (cI, 12, .inl (fA z0))), (q2, .inl (cI, 48, .inl (fA z0))), (q3, .inl (cI, 48, .inl (fA z0))), (q4, .inl (cI, 48, .inl (fA z0))), (q5, .inl (cZ, 48, .inl (fA z0))), (q6, .inl (cZ, 49, .inl (fA z0))), (q7, .inl (cJ, 49, .inr (.inl (fJ z0)))), (q8, .inl (cJ, 49, .inr (.inl (fJ z0))))] := hD
  refine va_putF (D := DD) (ci := 1) (v := .ref q8) (ty := .array .long) (C := RX1) (T := TX1) (N := 17) hx hb hts hin tyX1 tyX1_ok nmX1 hown hK hP hD hS 0 rfl rfl 11 (by decide) (hts _ m33) (fun _ h9 => h9) rfl hin2 rfl (by decide +kernel) rfl rfl (Nat.le_of_ble_eq_true rfl) dX1_init_65 (fun H locs hP hD hS => ?_)
  have hP : va_P DD vwCl [(h0, .inr (1, [.int 0, .ref q1, .int 0, .ref q2, .ref q3, .ref q4, .ref q5, .int 0, .int 0, .ref q6, .ref q7, .ref q8, .int 0, .int 0, .int 0, .int 0, .long 0])), (q1, .inl (cI, 12, .inl (fA z0))), (q2, .inl (cI, 48, .inl (fA z0))), (q3, .inl (cI, 48, .inl (fA z0))), (q4, .inl (cI, 48, .inl (fA z0))), (q5, .inl (cZ, 48, .inl (fA z0))), (q6, .inl (cZ, 49, .inl (fA z0))), (q7, .inl (cJ, 49, .inr (.inl (fJ z0)))), (q8, .inl (cJ, 49, .inr (.inl (fJ z0))))] H := hP
  have hD : va_D A [(h0, .inr (1, [.int 0, .ref q1, .int 0, .ref q2, .ref q3, .ref q4, .ref q5, .int 0, .int 0, .ref q6, .ref q7, .ref q8, .int 0, .int 0, .int 0, .int 0, .long 0])), (q1, .inl (cI, 12, .inl (fA z0))), (q2, .inl (cI, 48, .inl (fA z0))), (q3, .inl (cI, 48, .inl (fA z0))), (q4, .inl (cI, 48, .inl (fA z0))), (q5, .inl (cZ, 48, .inl (fA z0))), (q6, .inl (cZ, 49, .inl (fA z0))), (q7, .inl (cJ, 49, .inr (.inl (fJ z0)))), (q8, .inl (cJ, 49, .inr (.inl (fJ z0))))] := hD
  refine lv_aload_n hx hb dX1_init_68 rfl (lv_at hl 0 rfl) ?_
  refine va_get (D := DD) (ci := 1) (v := .ref q6) (C := RX1) (T := TX1) (N := 17) hx hb hts hin hown hK hP 0 rfl rfl 9 (by decide) (hts _ m26) (fun _ h9 => h9) rfl dX1_init_69 ?_
  refine z_iconst hx hb dX1_init_72 ?_
  refine z_iconst hx hb dX1_init_73 ?_
  refine z_zast hx hb hK hP hD hS 6 1 rfl rfl (by decide) ⟨by decide, by decide⟩ (by decide +kernel) dX1_init_74 (fun H locs hP hS => ?_)
  have hP : va_P DD vwCl [(h0, .inr (1, [.int 0, .ref q1, .int 0, .ref q2, .ref q3, .ref q4, .ref q5, .int 0, .int 0, .ref q6, .ref q7, .ref q8, .int 0, .int 0, .int 0, .int 0, .long 0])), (q1, .inl (cI, 12, .inl (fA z0))), (q2, .inl (cI, 48, .inl (fA z0))), (q3, .inl (cI, 48, .inl (fA z0))), (q4, .inl (cI, 48, .inl (fA z0))), (q5, .inl (cZ, 48, .inl (fA z0))), (q6, .inl (cZ, 49, .inl (fA (zup z0 0 1)))), (q7, .inl (cJ, 49, .inr (.inl (fJ z0)))), (q8, .inl (cJ, 49, .inr (.inl (fJ z0))))] H := hP
  have hD9 := hD.set (p := 6) (e := .inl (cZ, 49, .inl (fA (zup z0 0 1)))) rfl
  have hD9 : va_D A [(h0, .inr (1, [.int 0, .ref q1, .int 0, .ref q2, .ref q3, .ref q4, .ref q5, .int 0, .int 0, .ref q6, .ref q7, .ref q8, .int 0, .int 0, .int 0, .int 0, .long 0])), (q1, .inl (cI, 12, .inl (fA z0))), (q2, .inl (cI, 48, .inl (fA z0))), (q3, .inl (cI, 48, .inl (fA z0))), (q4, .inl (cI, 48, .inl (fA z0))), (q5, .inl (cZ, 48, .inl (fA z0))), (q6, .inl (cZ, 49, .inl (fA (zup z0 0 1)))), (q7, .inl (cJ, 49, .inr (.inl (fJ z0)))), (q8, .inl (cJ, 49, .inr (.inl (fJ z0))))] := hD9
  exact W.vret hx hb hr (fun t ht hW => ⟨⟨(fun k => match k with | 0 => h0 | 1 => q1 | 2 => q2 | 3 => q3 | 4 => q4 | 5 => q5 | 6 => q6 | 7 => q7 | _ => q8), rfl, trivial, rfl, by rw [ht]; exact hP, hD9⟩, hS.F ht⟩) hS.2.2 dX1_init_75 hlocks
